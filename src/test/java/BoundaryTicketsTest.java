import java.util.function.Supplier;

/** Boundary cases of the parts TICKETS and CALLS AND ORDERS, and of the promises 8 to 13. */
public final class BoundaryTicketsTest {
    private static final int UNKNOWN = MercuryLine.UNKNOWN;
    private static final int BAD_VALUE = MercuryLine.BAD_VALUE;
    private static final int FULL = MercuryLine.FULL;
    private static final int NOT_POSSIBLE = MercuryLine.NOT_POSSIBLE;
    private static final int NONE = MercuryLine.NONE;
    /** What there is not on lines with two stations each. */
    private static final int[] NO_STATIONS =
        {Integer.MIN_VALUE, -11, -10, -1, 2, 5, 6, 9, 12, 15, 16, 19, 20, 21, 100, Integer.MAX_VALUE};

    public static void main(String[] args) {
        fortyTicketsEver();
        valuesAndClasses();
        stationsOfATicket();
        lapsOfATicket();
        statesOnTheWay();
        statesThatAreEnds();
        faresAndPrices();
        heldUntilItEnds();
        earnedWhenArrived();
        refundedWhenPutOut();
        cancelledWhereItDoesNotRide();
        cancelledWhereItRides();
        queueAtAStation();
        queueInAHall();
        threeCalls();
        fourOrdersEver();
        endedOrders();
        bookFromAndTo();
        bookStations();
        bookValue();
        bookClass();
        bookLaps();
        bookSameStation();
        bookFull();
        bookReturns();
        cancelUnknown();
        cancelEnded();
        cancelReturns();
        callBehindOthers();
        callIsAnAct();
        callValue();
        callStation();
        callFull();
        callBackFirst();
        callBackNone();
        callBackStation();
        orderNextTick();
        orderAsBooked();
        orderPeriod();
        orderUnknown();
        orderFull();
        endOrderReturns();
        endOrderUnknown();
        endOrderEnded();
        Check.end("BoundaryTicketsTest");
    }

    private static void fortyTicketsEver() {
        Sentence s = new Sentence("TICKETS", "There are at most 40 tickets ever, numbered from 0.");
        MercuryLine x = Setup.twoLines();
        for (int i = 0; i < 40; i++) {
            s.due("there is no ticket yet", x.ticket(i, 0), UNKNOWN);
            s.due("ticket " + i, x.book(i, 1, 0, 1, 1), i);
        }
        s.due("the first", x.ticket(0, 0), 0);
        s.due("the last", x.ticket(39, 0), 39);
        s.due("there is none behind it", x.ticket(40, 0), UNKNOWN);
        s.due("there is none before the first", x.ticket(-1, 0), UNKNOWN);
        s.unchanged("a 41st", () -> Setup.booked(40), y -> y.book(1, 1, 0, 1, 1), FULL);
        Supplier<MercuryLine> over = () -> {
            MercuryLine y = Setup.booked(40);
            for (int i = 0; i < 40; i++) {
                y.cancel(i);
            }
            return y;
        };
        s.unchanged("a 41st when all have ended", over, y -> y.book(1, 1, 0, 1, 1), FULL);
    }

    private static void valuesAndClasses() {
        Sentence s = new Sentence("TICKETS",
            "A ticket has the value of the word (0 to 65535), a class (1, 2 or 3)");
        MercuryLine x = Setup.twoLines();
        int[] values = {0, 1, 65534, 65535};
        for (int i = 0; i < values.length; i++) {
            int kind = 1 + i % 3;
            s.due("value " + values[i], x.book(values[i], kind, 0, 1, 1), i);
            s.ticket("as booked", x, i, values[i], kind);
        }
        for (int value : new int[] {-1, 65536}) {
            s.unchanged("value " + value, Setup::twoLines, y -> y.book(value, 1, 0, 1, 1), BAD_VALUE);
        }
        for (int kind : new int[] {0, 4}) {
            s.unchanged("class " + kind, Setup::twoLines, y -> y.book(1, kind, 0, 1, 1), BAD_VALUE);
        }
    }

    private static void stationsOfATicket() {
        Sentence s = new Sentence("TICKETS",
            "a station from which and a station to which it goes "
            + "(on the same line or the other one; not the same station)");
        int[] stations = {0, 1, 10, 11};
        for (int from : stations) {
            for (int to : stations) {
                String trip = "from " + from + " to " + to;
                if (from == to) {
                    s.unchanged(trip, Setup::twoLines, x -> x.book(1, 1, from, to, 1), BAD_VALUE);
                } else {
                    MercuryLine x = Setup.twoLines();
                    s.due(trip, x.book(1, 1, from, to, 1), 0);
                    s.ticket(trip, x, 0, 1, 1, from, to);
                    s.queue(trip, x, from, 0);
                }
            }
        }
    }

    private static void lapsOfATicket() {
        Sentence s = new Sentence("TICKETS", "a number of laps (1 to 9), and what was paid for it");
        MercuryLine x = Setup.twoLines();
        s.due("1 lap", x.book(1, 1, 0, 1, 1), 0);
        s.due("9 laps", x.book(1, 1, 0, 1, 9), 1);
        s.ticket("of 1 lap", x, 0, 1, 1, 0, 1, 1, 10);
        s.ticket("of 9 laps", x, 1, 1, 1, 0, 1, 9, 90);
        for (int laps : new int[] {0, 10}) {
            s.unchanged(laps + " laps", Setup::twoLines, y -> y.book(1, 1, 0, 1, laps), BAD_VALUE);
        }
    }

    private static void statesOnTheWay() {
        Sentence s = new Sentence("TICKETS",
            "It is in one of these states: 0 it waits at a station (at first); 1 it rides; 2 it is in a hall");
        s.ticket("waits", Setup.inState(0), 0, 5, 1, 0, 1, 2, 20, 0, NONE, NONE, 0, NONE, NONE, NONE, NONE);
        s.ticket("rides", Setup.inState(1), 0, 5, 1, 0, 1, 2, 20, 1, 0, 0, 0, 0, NONE, NONE, NONE);
        s.ticket("is in a hall", Setup.inState(2), 0, 5, 1, 11, 1, 2, 20, 2, 0, NONE, 0, 0, NONE, NONE, NONE);
        for (int state = 0; state <= 2; state++) {
            int at = state;
            s.due("words that ride, state " + state, Setup.inState(state).line(0, 5), state == 1 ? 1 : 0);
            s.due("words in the hall, state " + state, Setup.inState(state).line(0, 6), state == 2 ? 1 : 0);
            s.due("it has not ended", Setup.inState(state).cancel(0) >= 0 ? 1 : 0, 1);
            s.due("state " + state + " is counted", Setup.inState(state).count(2 + state), 1);
            s.act("cancel(0) in state " + state, () -> Setup.inState(at), x -> x.cancel(0), at == 1 ? 10 : 20);
        }
    }

    private static void statesThatAreEnds() {
        Sentence s = new Sentence("TICKETS", "3 it has arrived; 4 it was called off; 5 it was shoved out; "
            + "6 its laps were used up; 7 its line was drained; 8 it was cancelled. The states from 3 on are ends.");
        int[][] ends = {
            {3, 2, 2, 1, NONE, 0}, {4, 2, 2, 0, NONE, 0}, {5, 1, 1, 0, 1, 0},
            {6, 0, 2, 0, NONE, 0}, {7, 2, 1, NONE, NONE, 0}, {8, 2, 0, NONE, NONE, NONE}};
        for (int[] end : ends) {
            MercuryLine x = Setup.inState(end[0]);
            String state = "in state " + end[0];
            int from = end[0] == 4 ? 1 : 0;
            int to = end[0] == 4 ? 11 : 1;
            s.ticket(state, x, 0, 5, 1, from, to, end[1], 20, end[0], NONE, NONE, 0, end[5], end[2], end[3], end[4]);
            s.due(state + " it is counted", x.count(2 + end[0]), 1);
            s.unchanged(state + " it has ended", () -> Setup.inState(end[0]), y -> y.cancel(0), NOT_POSSIBLE);
            x.tick(60);
            s.due(state + " it stays", x.ticket(0, 6), end[0]);
            s.due(state + " it ended when it did", x.ticket(0, 11), end[2]);
        }
    }

    private static void faresAndPrices() {
        Sentence s = new Sentence("TICKETS",
            "The fare is from 1 to 99 (at first 10). A ticket of n laps costs n * fare "
            + "in the class 1, 2 * n * fare in the class 2, and 3 * n * fare + 25 in the class 3.");
        int[][] due = {
            {10, 10, 20, 55, 90, 180, 295}, {1, 1, 2, 28, 9, 18, 52}, {99, 99, 198, 322, 891, 1782, 2698}};
        for (int[] row : due) {
            MercuryLine x = Setup.twoLines();
            x.setFare(row[0]);
            s.due("the fare", x.count(15), row[0]);
            for (int i = 0; i < 6; i++) {
                int kind = 1 + i % 3;
                int laps = i < 3 ? 1 : 9;
                String what = "class " + kind + ", laps " + laps + ", fare " + row[0];
                s.due(what, x.price(kind, laps), row[1 + i]);
                s.due(what, x.book(1, kind, 0, 1, laps), i);
                s.due(what + " was paid", x.ticket(i, 5), row[1 + i]);
            }
            s.due("all that was paid", x.count(11), row[1] + row[2] + row[3] + row[4] + row[5] + row[6]);
        }
        s.unchanged("the fare 0", MercuryLine::new, x -> x.setFare(0), BAD_VALUE);
        s.unchanged("the fare 100", MercuryLine::new, x -> x.setFare(100), BAD_VALUE);
    }

    private static void accounts(Sentence s, String when, MercuryLine x, int paid, int earned, int refunded) {
        s.due(when + ", paid", x.count(11), paid);
        s.due(when + ", earned", x.count(12), earned);
        s.due(when + ", refunded", x.count(13), refunded);
        s.due(when + ", held", x.count(14), paid - earned - refunded);
    }

    private static void heldUntilItEnds() {
        Sentence s = new Sentence("TICKETS", "What was paid for a ticket is held until it ends.");
        for (int state = 0; state <= 2; state++) {
            accounts(s, "in state " + state, Setup.inState(state), 20, 0, 0);
        }
        for (int state = 3; state <= 8; state++) {
            MercuryLine x = Setup.inState(state);
            s.due("held in state " + state, x.count(14), state == 5 ? 40 : 0);
        }
    }

    private static void earnedWhenArrived() {
        Sentence s = new Sentence("TICKETS", "When it has arrived, all of it is earned.");
        accounts(s, "arrived", Setup.inState(3), 20, 20, 0);
        MercuryLine x = Setup.shortLines();
        x.book(1, 3, 1, 0, 9);
        x.setFare(99);
        x.tick(2);
        accounts(s, "a tick before it arrives", x, 295, 0, 0);
        x.tick(1);
        accounts(s, "when it has arrived, as it was paid", x, 295, 295, 0);
    }

    private static void refundedWhenPutOut() {
        Sentence s = new Sentence("TICKETS", "When it was called off, shoved out, or its laps were used up, "
            + "or its line was drained, all of it is refunded.");
        accounts(s, "called off", Setup.inState(4), 20, 0, 20);
        accounts(s, "shoved out", Setup.inState(5), 60, 0, 20);
        accounts(s, "laps used up", Setup.inState(6), 20, 0, 20);
        accounts(s, "drained", Setup.inState(7), 20, 0, 20);
    }

    private static void cancelledWhereItDoesNotRide() {
        Sentence s = new Sentence("TICKETS", "When it is cancelled, all of it is refunded if it does not ride then "
            + "(so also in a hall)");
        for (int state : new int[] {0, 2}) {
            MercuryLine x = Setup.inState(state);
            s.due("cancel(0) in state " + state, x.cancel(0), 20);
            accounts(s, "in state " + state, x, 20, 0, 20);
            s.ticket("cancelled", x, 0, 5, 1, state == 2 ? 11 : 0, 1, 2, 20, 8, NONE, NONE, 0,
                state == 2 ? 0 : NONE, state == 2 ? 3 : 0, NONE, NONE);
            s.due("nobody is in the hall", x.line(0, 6), 0);
            s.queue("nobody waits", x, 0);
            s.due("nobody would board next", x.station(0, 8), NONE);
        }
        MercuryLine x = Setup.twoLines();
        x.setFare(1);
        x.book(1, 1, 0, 1, 1);
        s.due("the least that can be paid", x.cancel(0), 1);
        accounts(s, "of 1", x, 1, 0, 1);
    }

    private static void cancelledWhereItRides() {
        Sentence s = new Sentence("TICKETS", "otherwise half of it (rounded down), and the rest is earned");
        int[][] due = {{1, 1, 1, 1, 0}, {1, 1, 2, 2, 1}, {1, 1, 9, 9, 4}, {10, 1, 2, 20, 10},
            {1, 3, 1, 28, 14}, {1, 3, 2, 31, 15}, {99, 3, 9, 2698, 1349}, {99, 1, 9, 891, 445}};
        for (int[] row : due) {
            MercuryLine x = Setup.twoLines();
            x.setFare(row[0]);
            x.book(1, row[1], 0, 1, row[2]);
            s.due("paid", x.ticket(0, 5), row[3]);
            x.tick(1);
            s.due("cancel(0), paid " + row[3], x.cancel(0), row[4]);
            accounts(s, "paid " + row[3], x, row[3], row[3] - row[4], row[4]);
            s.due("its slot is empty", x.slot(0, 0), NONE);
            s.due("nobody rides", x.line(0, 5), 0);
            s.due("what was paid is told still", x.ticket(0, 5), row[3]);
        }
    }

    private static void queueAtAStation() {
        Sentence s = new Sentence("TICKETS", "At a station, and in a hall, the words wait by class "
            + "(the greater one first), then by the numbers of their tickets.");
        MercuryLine x = Setup.twoLines();
        s.queue("nobody", x, 0);
        int[] kinds = {1, 3, 2, 3, 1, 2};
        int[] turns = {1, 3, 2, 5, 0, 4};
        for (int kind : kinds) {
            x.book(1, kind, 0, 1, 1);
        }
        x.book(1, 3, 1, 0, 1);
        s.queue("by class, then by number", x, 0, turns);
        s.queue("at another station", x, 1, 6);
        for (int i = 0; i < turns.length; i++) {
            s.due("next to board", x.station(0, 8), turns[i]);
            x.tick(1);
            s.due("boards in turn " + i, x.slot(0, i), turns[i]);
            s.due("in tick", x.ticket(turns[i], 10), i);
        }
        s.queue("nobody any more", x, 0);
        s.due("nobody would board next", x.station(0, 8), NONE);
    }

    /** In the hall come first ticket 3, of class 2, then ticket 2, of class 2, then ticket 1, of class 1. */
    private static void queueInAHall() {
        Sentence s = new Sentence("TICKETS", "At a station, and in a hall, the words wait by class "
            + "(the greater one first), then by the numbers of their tickets.");
        MercuryLine x = Setup.blockedJunction(3);
        x.addStation(1, 1);
        x.book(1, 1, 11, 1, 9);
        x.book(2, 2, 11, 1, 9);
        x.book(3, 2, 12, 1, 9);
        int[] next = {NONE, 3, 2, 2};
        for (int i = 0; i < next.length; i++) {
            x.tick(1);
            s.due("in the hall in turn " + i, x.line(0, 6), i);
            s.due("who is next there", x.station(0, 8), next[i]);
        }
        s.event("the last who came in", x, 1, 3, 1, 1, 10, 4);
        for (int ticket : new int[] {2, 3, 1}) {
            s.due("by class, then by number", x.station(0, 8), ticket);
            x.cancel(ticket);
        }
        s.due("nobody", x.station(0, 8), NONE);
    }

    private static void threeCalls() {
        Sentence s = new Sentence("CALLS AND ORDERS",
            "A station can have at most 3 calls, each for a value, in the order in which they were given.");
        Supplier<MercuryLine> three = BoundaryTicketsTest::threeCallsAt1;
        s.calls("three", three.get(), 1, 65535, 0, 7);
        s.calls("none at another station", three.get(), 0);
        s.calls("none at that of the other line", three.get(), 11);
        s.unchanged("a fourth", three, x -> x.call(1, 8), FULL);
        MercuryLine x = three.get();
        s.due("each station has its own", x.call(11, 8), 1);
        x.callBack(1);
        s.due("one more when one is taken back", x.call(1, 9), 3);
        s.calls("behind the others", x, 1, 0, 7, 9);
    }

    private static MercuryLine threeCallsAt1() {
        MercuryLine x = Setup.twoLines();
        x.call(1, 65535);
        x.call(1, 0);
        x.call(1, 7);
        return x;
    }

    private static MercuryLine fourOrders() {
        MercuryLine x = Setup.booked(1);
        for (int order = 0; order < 4; order++) {
            x.order(0, 50);
        }
        return x;
    }

    private static void fourOrdersEver() {
        Sentence s = new Sentence("CALLS AND ORDERS", "There are at most 4 orders ever, numbered from 0; "
            + "an order has a period (1 to 50), and the value, class, stations and laps of a ticket");
        MercuryLine x = Setup.booked(1);
        for (int order = 0; order < 4; order++) {
            s.due("there is no such order yet", x.ordered(order, 0), UNKNOWN);
            s.due("order " + order, x.order(0, order % 2 == 0 ? 1 : 50), order);
            s.ordered("as given", x, order, order % 2 == 0 ? 1 : 50, 0, 0, 0, 0, 0, 0);
        }
        s.due("there is no order 4", x.ordered(4, 0), UNKNOWN);
        s.due("orders", x.count(17), 4);
        s.unchanged("a fifth", BoundaryTicketsTest::fourOrders, y -> y.order(0, 1), FULL);
        Supplier<MercuryLine> ended = () -> {
            MercuryLine y = fourOrders();
            for (int order = 0; order < 4; order++) {
                y.endOrder(order);
            }
            return y;
        };
        s.unchanged("a fifth when all are ended", ended, y -> y.order(0, 1), FULL);
        for (int period : new int[] {0, 51}) {
            s.unchanged("period " + period, () -> Setup.booked(1), y -> y.order(0, period), BAD_VALUE);
        }
    }

    private static void endedOrders() {
        Sentence s = new Sentence("CALLS AND ORDERS", "it can be ended, and books nothing more then");
        MercuryLine x = Setup.booked(1);
        x.order(0, 1);
        x.endOrder(0);
        x.tick(60);
        s.due("ended at once", x.count(1), 1);
        s.ordered("ended at once", x, 0, 1, 0, 0, 0, 1);
        MercuryLine y = Setup.booked(1);
        y.order(0, 2);
        y.order(0, 3);
        y.tick(3);
        s.ordered("in the ticks 0 and 2", y, 0, 2, 0, 2, 0, 0);
        s.ordered("in the tick 0", y, 1, 3, 0, 1, 0, 0);
        y.endOrder(0);
        y.tick(4);
        s.ordered("no more", y, 0, 2, 0, 2, 0, 1);
        s.ordered("the other one goes on in the ticks 3 and 6", y, 1, 3, 0, 3, 0, 0);
        s.due("tickets", y.count(1), 6);
    }

    private static void bookFromAndTo() {
        Sentence s = new Sentence("Promise 8", "from: a station - to: a station");
        Supplier<MercuryLine> six = () -> {
            MercuryLine x = Setup.oneLine(8, 0, 1, 2, 3, 4, 5);
            for (int offset = 0; offset < 6; offset++) {
                x.addStation(1, offset);
            }
            return x;
        };
        s.act("from the last one of line 0", six, x -> x.book(1, 1, 5, 10, 1), 0);
        s.act("from the last one of line 1", six, x -> x.book(1, 1, 15, 0, 1), 0);
        s.act("to the last one of line 1", six, x -> x.book(1, 1, 0, 15, 1), 0);
        s.unchanged("from one behind the last of line 0", six, x -> x.book(1, 1, 6, 0, 1), UNKNOWN);
        s.unchanged("to one behind the last of line 1", six, x -> x.book(1, 1, 0, 16, 1), UNKNOWN);
    }

    private static void bookStations() {
        Sentence s = new Sentence("Promise 8", "Returns the number of the ticket; UNKNOWN (from or to)");
        for (int station : NO_STATIONS) {
            s.unchanged("from " + station, Setup::twoLines, x -> x.book(1, 1, station, 1, 1), UNKNOWN);
            s.unchanged("to " + station, Setup::twoLines, x -> x.book(1, 1, 1, station, 1), UNKNOWN);
            s.unchanged("from and to " + station, Setup::twoLines, x -> x.book(-1, 4, station, station, 0), UNKNOWN);
        }
        s.unchanged("without stations", MercuryLine::new, x -> x.book(1, 1, 0, 10, 1), UNKNOWN);
        s.unchanged("no station of the other line", () -> Setup.oneLine(8, 0, 4), x -> x.book(1, 1, 0, 10, 1), UNKNOWN);
        s.unchanged("40 tickets ahead of it", () -> Setup.booked(40), y -> y.book(1, 1, 0, 2, 1), UNKNOWN);
    }

    private static void bookValue() {
        Sentence s = new Sentence("Promise 8", "value: 0 to 65535");
        for (int value : new int[] {Integer.MIN_VALUE, -1, 65536, 65537, Integer.MAX_VALUE}) {
            s.unchanged("value " + value, Setup::twoLines, x -> x.book(value, 1, 0, 1, 1), BAD_VALUE);
            s.unchanged("value " + value + " of 41", () -> Setup.booked(40), x -> x.book(value, 1, 0, 1, 1), BAD_VALUE);
        }
        s.act("value 0", Setup::twoLines, x -> x.book(0, 1, 0, 1, 1), 0);
        s.act("value 65535", Setup::twoLines, x -> x.book(65535, 1, 0, 1, 1), 0);
    }

    private static void bookClass() {
        Sentence s = new Sentence("Promise 8", "kind: the class, 1 to 3");
        for (int kind : new int[] {Integer.MIN_VALUE, -1, 0, 4, Integer.MAX_VALUE}) {
            s.unchanged("class " + kind, Setup::twoLines, x -> x.book(1, kind, 0, 1, 1), BAD_VALUE);
            s.unchanged("class " + kind + " of 41", () -> Setup.booked(40), x -> x.book(1, kind, 0, 1, 1), BAD_VALUE);
        }
        s.act("class 1", Setup::twoLines, x -> x.book(1, 1, 0, 1, 1), 0);
        s.act("class 3", Setup::twoLines, x -> x.book(1, 3, 0, 1, 1), 0);
    }

    private static void bookLaps() {
        Sentence s = new Sentence("Promise 8", "laps: 1 to 9");
        for (int laps : new int[] {Integer.MIN_VALUE, -1, 0, 10, Integer.MAX_VALUE}) {
            s.unchanged("laps " + laps, Setup::twoLines, x -> x.book(1, 1, 0, 1, laps), BAD_VALUE);
            s.unchanged("laps " + laps + " of 41", () -> Setup.booked(40), x -> x.book(1, 1, 0, 1, laps), BAD_VALUE);
        }
        s.act("1 lap", Setup::twoLines, x -> x.book(1, 1, 0, 1, 1), 0);
        s.act("9 laps", Setup::twoLines, x -> x.book(1, 1, 0, 1, 9), 0);
    }

    private static void bookSameStation() {
        Sentence s = new Sentence("Promise 8", "BAD_VALUE (value, kind, laps, or both stations are the same)");
        for (int station : new int[] {0, 1, 10, 11}) {
            s.unchanged("at " + station, Setup::twoLines, x -> x.book(1, 1, station, station, 1), BAD_VALUE);
        }
        s.unchanged("40 tickets", () -> Setup.booked(40), x -> x.book(1, 1, 1, 1, 1), BAD_VALUE);
        s.due("the same number on the other line", Setup.twoLines().book(1, 1, 0, 10, 1), 0);
    }

    private static void bookFull() {
        Sentence s = new Sentence("Promise 8", "FULL if there have been 40");
        s.act("the 40th", () -> Setup.booked(39), x -> x.book(1, 1, 0, 1, 1), 39);
        s.unchanged("the 41st", () -> Setup.booked(40), x -> x.book(1, 1, 0, 1, 1), FULL);
        MercuryLine x = Setup.booked(40);
        x.undo();
        s.due("again when one is undone", x.book(1, 1, 0, 1, 1), 39);
    }

    private static void bookReturns() {
        Sentence s = new Sentence("Promise 8", "Books a ticket. This is an act.");
        s.act("the first", Setup::twoLines, x -> x.book(7, 2, 11, 1, 3), 0);
        MercuryLine x = Setup.twoLines();
        x.tick(5);
        s.due("the first", x.book(7, 2, 11, 1, 3), 0);
        s.ticket("the first", x, 0, 7, 2, 11, 1, 3, 60, 0, NONE, NONE, 5, NONE, NONE, NONE, NONE);
        s.due("it waits", x.waiting(11, 0), 0);
        s.due("no event", x.event(0, 0), NONE);
    }

    private static void cancelUnknown() {
        Sentence s = new Sentence("Promise 9", "Returns what is refunded; UNKNOWN");
        for (int ticket : new int[] {Integer.MIN_VALUE, -1, 2, 39, 40, 41, Integer.MAX_VALUE}) {
            s.unchanged("cancel(" + ticket + ")", () -> Setup.booked(2), x -> x.cancel(ticket), UNKNOWN);
        }
        s.unchanged("of a new object", MercuryLine::new, x -> x.cancel(0), UNKNOWN);
        s.due("the last of 40", Setup.booked(40).cancel(39), 10);
        s.due("none behind it", Setup.booked(40).cancel(40), UNKNOWN);
    }

    private static void cancelEnded() {
        Sentence s = new Sentence("Promise 9", "NOT_POSSIBLE if it has ended");
        for (int end = 3; end <= 8; end++) {
            int state = end;
            s.unchanged("in state " + end, () -> Setup.inState(state), x -> x.cancel(0), NOT_POSSIBLE);
        }
    }

    private static void cancelReturns() {
        Sentence s = new Sentence("Promise 9", "Cancels a ticket. This is an act. - ticket: a ticket "
            + "Returns what is refunded");
        s.act("one that waits", () -> Setup.inState(0), x -> x.cancel(0), 20);
        s.act("one that rides", () -> Setup.inState(1), x -> x.cancel(0), 10);
        s.act("one in a hall", () -> Setup.inState(2), x -> x.cancel(0), 20);
        Supplier<MercuryLine> cheap = () -> {
            MercuryLine x = Setup.twoLines();
            x.setFare(1);
            x.book(1, 1, 0, 1, 1);
            x.tick(1);
            return x;
        };
        s.act("nothing is refunded of 1", cheap, x -> x.cancel(0), 0);
        MercuryLine x = Setup.inState(1);
        x.cancel(0);
        s.event("no event tells of it", x, 0, 0, 0, 0, 0, 0);
    }

    private static void callBehindOthers() {
        Sentence s = new Sentence("Promise 10", "Gives a station a call for a value, behind its others.");
        MercuryLine x = Setup.twoLines();
        s.calls("none at first", x, 1);
        s.due("the first", x.call(1, 9), 1);
        s.calls("one", x, 1, 9);
        s.due("the same value", x.call(1, 9), 2);
        s.due("a lesser value", x.call(1, 3), 3);
        s.calls("three", x, 1, 9, 9, 3);
    }

    private static void callIsAnAct() {
        Sentence s = new Sentence("Promise 10", "This is an act. - station: a station");
        for (int station : new int[] {0, 1, 10, 11}) {
            s.act("the first at " + station, Setup::twoLines, x -> x.call(station, 3), 1);
            s.act("the third at " + station, () -> {
                MercuryLine x = Setup.twoLines();
                x.call(station, 1);
                x.call(station, 2);
                return x;
            }, x -> x.call(station, 3), 3);
        }
    }

    private static void callValue() {
        Sentence s = new Sentence("Promise 10", "value: 0 to 65535");
        for (int value : new int[] {Integer.MIN_VALUE, -5, -1, 65536, Integer.MAX_VALUE}) {
            s.unchanged("call(1, " + value + ")", Setup::twoLines, x -> x.call(1, value), BAD_VALUE);
            s.unchanged("a fourth, of " + value, BoundaryTicketsTest::threeCallsAt1, x -> x.call(1, value), BAD_VALUE);
        }
        s.act("value 0", Setup::twoLines, x -> x.call(1, 0), 1);
        s.act("value 65535", Setup::twoLines, x -> x.call(1, 65535), 1);
    }

    private static void callStation() {
        Sentence s = new Sentence("Promise 10", "Returns how many calls it has then; UNKNOWN; BAD_VALUE");
        for (int station : NO_STATIONS) {
            s.unchanged("call(" + station + ", 1)", Setup::twoLines, x -> x.call(station, 1), UNKNOWN);
            s.unchanged("call(" + station + ", -1)", Setup::twoLines, x -> x.call(station, -1), UNKNOWN);
        }
        s.unchanged("without stations", MercuryLine::new, x -> x.call(0, 1), UNKNOWN);
    }

    private static void callFull() {
        Sentence s = new Sentence("Promise 10", "FULL if it has 3");
        s.unchanged("a fourth", BoundaryTicketsTest::threeCallsAt1, x -> x.call(1, 1), FULL);
        s.unchanged("a fourth for a value that is there", BoundaryTicketsTest::threeCallsAt1, x -> x.call(1, 0), FULL);
        s.due("another station has room", threeCallsAt1().call(0, 1), 1);
        MercuryLine x = threeCallsAt1();
        x.addStation(0, 1);
        x.book(0, 1, 0, 2, 9);
        x.tick(5);
        s.due("one is done", x.ticket(0, 6), 4);
        s.due("room again", x.call(1, 1), 3);
        s.calls("the last", x, 1, 65535, 7, 1);
    }

    private static void callBackFirst() {
        Sentence s = new Sentence("Promise 11", "Takes back the first call of a station. This is an act.");
        MercuryLine x = threeCallsAt1();
        s.due("the first of three", x.callBack(1), 65535);
        s.calls("two are left", x, 1, 0, 7);
        s.due("the first of two, a 0", x.callBack(1), 0);
        s.calls("one is left", x, 1, 7);
        s.due("the last", x.callBack(1), 7);
        s.calls("none is left", x, 1);
        s.act("the first of three", BoundaryTicketsTest::threeCallsAt1, y -> y.callBack(1), 65535);
        s.act("a 0", () -> {
            MercuryLine y = Setup.twoLines();
            y.call(10, 0);
            return y;
        }, y -> y.callBack(10), 0);
    }

    private static void callBackNone() {
        Sentence s = new Sentence("Promise 11", "Returns its value; UNKNOWN; NONE if it has none.");
        s.unchanged("it never had one", Setup::twoLines, x -> x.callBack(1), NONE);
        s.unchanged("another station has three", BoundaryTicketsTest::threeCallsAt1, x -> x.callBack(11), NONE);
        s.unchanged("all are taken back", () -> {
            MercuryLine x = threeCallsAt1();
            x.callBack(1);
            x.callBack(1);
            x.callBack(1);
            return x;
        }, x -> x.callBack(1), NONE);
        s.unchanged("its one call is done", () -> Setup.inState(4), x -> x.callBack(0), NONE);
    }

    private static void callBackStation() {
        Sentence s = new Sentence("Promise 11", "- station: a station Returns its value; UNKNOWN");
        for (int station : NO_STATIONS) {
            s.unchanged("callBack(" + station + ")", Setup::twoLines, x -> x.callBack(station), UNKNOWN);
        }
        for (int station : new int[] {0, 1, 10, 11}) {
            MercuryLine x = Setup.twoLines();
            x.call(station, station);
            s.due("of " + station, x.callBack(station), station);
        }
    }

    private static void orderNextTick() {
        Sentence s = new Sentence("Promise 12",
            "Gives an order like a ticket: its first ticket is booked in the next tick. This is an act.");
        for (int period : new int[] {1, 2, 50}) {
            MercuryLine x = Setup.booked(1);
            x.tick(7);
            x.order(0, period);
            s.ordered("given", x, 0, period, 7, 0, 0, 0, 0, 0);
            s.due("nothing is booked yet", x.count(1), 1);
            x.tick(1);
            s.ordered("in the next tick", x, 0, period, 7, 1, 0, 0, 0, 0);
            s.ticket("its ticket", x, 1, 0, 1, 0, 1, 1, 10, 1, 0, 7, 7, 7);
            s.due("one", x.count(1), 2);
            if (period > 1) {
                x.tick(period - 1);
                s.due("none between", x.count(1), 2);
            }
            x.tick(1);
            s.due("one after the period", x.ticket(2, 9), 7 + period);
        }
        s.act("order(0, 1)", () -> Setup.booked(1), x -> x.order(0, 1), 0);
    }

    private static void orderAsBooked() {
        Sentence s = new Sentence("Promise 12",
            "- ticket: a ticket whose value, class, stations and laps (as they were booked) it has");
        for (int end : new int[] {3, 4, 5, 6, 7, 8}) {
            MercuryLine x = Setup.inState(end);
            int tickets = x.count(1);
            int tick = x.count(0);
            x.setFare(20);
            s.due("of a ticket in state " + end, x.order(0, 50), 0);
            x.tick(1);
            s.ticket("booked as that one was, with the fare of now", x, tickets,
                5, 1, x.ticket(0, 2), x.ticket(0, 3), 2, 40);
            s.due("booked in tick", x.ticket(tickets, 9), tick);
        }
        MercuryLine x = Setup.oneLine(4, 0, 2);
        x.setHeat(0, 10);
        x.book(65535, 3, 0, 1, 9);
        x.tick(9);
        s.due("laps that are left", x.ticket(0, 4), 1);
        x.order(0, 50);
        x.tick(1);
        s.ticket("it has all laps", x, 1, 65535, 3, 0, 1, 9, 295);
    }

    private static void orderPeriod() {
        Sentence s = new Sentence("Promise 12", "period: 1 to 50");
        for (int period : new int[] {Integer.MIN_VALUE, -1, 0, 51, Integer.MAX_VALUE}) {
            s.unchanged("order(0, " + period + ")", () -> Setup.booked(1), x -> x.order(0, period), BAD_VALUE);
            s.unchanged("a fifth, of " + period, BoundaryTicketsTest::fourOrders, x -> x.order(0, period), BAD_VALUE);
        }
        s.act("period 1", () -> Setup.booked(1), x -> x.order(0, 1), 0);
        s.act("period 50", () -> Setup.booked(1), x -> x.order(0, 50), 0);
    }

    private static void orderUnknown() {
        Sentence s = new Sentence("Promise 12", "Returns the number of the order; UNKNOWN; BAD_VALUE");
        for (int ticket : new int[] {Integer.MIN_VALUE, -1, 1, 39, 40, Integer.MAX_VALUE}) {
            s.unchanged("order(" + ticket + ", 1)", () -> Setup.booked(1), x -> x.order(ticket, 1), UNKNOWN);
            s.unchanged("order(" + ticket + ", 0)", () -> Setup.booked(1), x -> x.order(ticket, 0), UNKNOWN);
            s.unchanged("a fifth of " + ticket, BoundaryTicketsTest::fourOrders, x -> x.order(ticket, 1), UNKNOWN);
        }
        s.unchanged("of a new object", MercuryLine::new, x -> x.order(0, 1), UNKNOWN);
        s.due("of the last of 40", Setup.booked(40).order(39, 1), 0);
    }

    private static void orderFull() {
        Sentence s = new Sentence("Promise 12", "FULL if there have been 4");
        s.unchanged("a fifth", BoundaryTicketsTest::fourOrders, x -> x.order(0, 50), FULL);
        MercuryLine x = fourOrders();
        x.undo();
        s.due("the fourth is undone", x.count(17), 3);
        s.due("there is none with its number", x.ordered(3, 0), UNKNOWN);
        s.act("the fourth", () -> {
            MercuryLine y = fourOrders();
            y.undo();
            return y;
        }, y -> y.order(0, 9), 3);
    }

    private static void endOrderReturns() {
        Sentence s = new Sentence("Promise 13", "Ends an order. This is an act. - order: an order "
            + "Returns how many tickets it has booked");
        s.act("none", BoundaryTicketsTest::fourOrders, x -> x.endOrder(3), 0);
        Supplier<MercuryLine> running = () -> {
            MercuryLine x = Setup.booked(1);
            x.order(0, 1);
            x.order(0, 50);
            x.tick(39);
            return x;
        };
        s.act("38, for want of tickets", running, x -> x.endOrder(0), 38);
        s.act("1", running, x -> x.endOrder(1), 1);
        MercuryLine x = running.get();
        x.endOrder(0);
        s.ordered("the ended one", x, 0, 1, 0, 38, 1, 1, 0, 0);
        s.ordered("the other one", x, 1, 50, 0, 1, 0, 0, 0, 0);
    }

    private static void endOrderUnknown() {
        Sentence s = new Sentence("Promise 13", "UNKNOWN; NONE if it is ended already");
        for (int order : new int[] {Integer.MIN_VALUE, -1, 4, 5, Integer.MAX_VALUE}) {
            s.unchanged("endOrder(" + order + ")", BoundaryTicketsTest::fourOrders, x -> x.endOrder(order), UNKNOWN);
        }
        s.unchanged("without orders", () -> Setup.booked(1), x -> x.endOrder(0), UNKNOWN);
    }

    private static void endOrderEnded() {
        Sentence s = new Sentence("Promise 13", "NONE if it is ended already");
        for (int order : new int[] {0, 3}) {
            s.unchanged("endOrder(" + order + ") again", () -> {
                MercuryLine x = fourOrders();
                x.endOrder(order);
                return x;
            }, x -> x.endOrder(order), NONE);
        }
        MercuryLine x = fourOrders();
        x.endOrder(0);
        s.due("another one", x.endOrder(1), 0);
    }
}
