/** Promises 8 to 13: tickets, calls and orders. */
public final class TicketsTest {
    private static final int UNKNOWN = MercuryLine.UNKNOWN;
    private static final int BAD_VALUE = MercuryLine.BAD_VALUE;
    private static final int FULL = MercuryLine.FULL;
    private static final int NOT_POSSIBLE = MercuryLine.NOT_POSSIBLE;
    private static final int NONE = MercuryLine.NONE;

    public static void main(String[] args) {
        book();
        bookIsFull();
        cancelWhereItWaits();
        cancelWhereItRides();
        cancelInAHall();
        call();
        callBack();
        order();
        orderTakesWhatWasBooked();
        endOrder();
        Check.end("TicketsTest");
    }

    private static void book() {
        MercuryLine x = Setup.twoLines();
        int[] bad = {-1, 2, 9, 12, 19, 20, 100, Integer.MAX_VALUE, Integer.MIN_VALUE};
        for (int station : bad) {
            Check.due("8: from " + station, x.book(-1, 0, station, 0, 0), UNKNOWN);
            Check.due("8: to " + station, x.book(-1, 0, 0, station, 0), UNKNOWN);
        }
        Check.due("8: value -1", x.book(-1, 1, 0, 1, 1), BAD_VALUE);
        Check.due("8: value 65536", x.book(65536, 1, 0, 1, 1), BAD_VALUE);
        Check.due("8: class 0", x.book(1, 0, 0, 1, 1), BAD_VALUE);
        Check.due("8: class 4", x.book(1, 4, 0, 1, 1), BAD_VALUE);
        Check.due("8: 0 laps", x.book(1, 1, 0, 1, 0), BAD_VALUE);
        Check.due("8: 10 laps", x.book(1, 1, 0, 1, 10), BAD_VALUE);
        Check.due("8: the same station", x.book(1, 1, 1, 1, 1), BAD_VALUE);
        Check.due("8: none so far", x.count(1), 0);
        Check.due("8: value 65535", x.book(65535, 3, 11, 0, 9), 0);
        int[] told = {65535, 3, 11, 0, 9, 295, 0, NONE, NONE, 0, NONE, NONE, NONE, NONE};
        for (int what = 0; what < told.length; what++) {
            Check.due("8: ticket(0, " + what + ")", x.ticket(0, what), told[what]);
        }
        Check.due("8: value 0", x.book(0, 1, 0, 1, 1), 1);
        Check.due("8: paid", x.count(11), 305);
        Check.due("8: held", x.count(14), 305);
        Check.due("8: recorded", x.undo(), 3);
        Check.due("8: undone", x.count(1), 1);
    }

    private static void bookIsFull() {
        MercuryLine x = Setup.twoLines();
        for (int i = 0; i < 40; i++) {
            Check.due("8: ticket " + i, x.book(i, 1, 0, 1, 1), i);
            if (i % 2 == 0) {
                x.cancel(i);
            }
        }
        Check.due("8: ended tickets count, too", x.book(1, 1, 0, 1, 1), FULL);
        Check.due("8: value ahead of room", x.book(1, 4, 0, 1, 1), BAD_VALUE);
        Check.due("8: station ahead of room", x.book(1, 4, 0, 7, 1), UNKNOWN);
        Check.due("8: the last", x.ticket(39, 0), 39);
        Check.due("8: none behind it", x.ticket(40, 0), UNKNOWN);
    }

    private static void cancelWhereItWaits() {
        MercuryLine x = Setup.twoLines();
        Check.due("9: no ticket 0", x.cancel(0), UNKNOWN);
        Check.due("9: no ticket -1", x.cancel(-1), UNKNOWN);
        x.book(1, 1, 0, 1, 1);
        x.book(1, 3, 0, 1, 1);
        Check.due("9: all is refunded", x.cancel(1), 55);
        int recorded = x.count(19);
        Check.due("9: again", x.cancel(1), NOT_POSSIBLE);
        Check.due("9: not recorded", x.count(19), recorded);
        Check.due("9: state", x.ticket(1, 6), 8);
        Check.due("9: tick of the end", x.ticket(1, 11), 0);
        Check.due("9: station of the end", x.ticket(1, 12), NONE);
        Check.due("9: no event", x.event(0, 0), NONE);
        Check.due("9: waits no more", x.waiting(0, 0), 0);
        Check.due("9: refunded", x.count(13), 55);
        Check.due("9: held", x.count(14), 10);
        x.undo();
        Check.due("9: undone", x.ticket(1, 6), 0);
    }

    private static void cancelWhereItRides() {
        MercuryLine x = Setup.twoLines();
        x.setFare(5);
        x.book(1, 1, 0, 1, 3);
        x.tick(1);
        Check.due("9: half, rounded down", x.cancel(0), 7);
        Check.due("9: refunded", x.count(13), 7);
        Check.due("9: earned", x.count(12), 8);
        Check.due("9: held", x.count(14), 0);
        Check.due("9: the slot is empty", x.slot(0, 0), NONE);
        Check.due("9: nobody rides", x.line(0, 5), 0);
        Check.due("9: line", x.ticket(0, 7), NONE);
        Check.due("9: slot", x.ticket(0, 8), NONE);
        Check.due("9: tick of the end", x.ticket(0, 11), 1);
        Check.due("9: no value has arrived", x.count(18), 0);
        x.setFare(1);
        x.book(1, 1, 0, 1, 1);
        x.tick(1);
        Check.due("9: it rides", x.ticket(1, 6), 1);
        Check.due("9: half of 1", x.cancel(1), 0);
        Check.due("9: earned then", x.count(12), 9);
        x.book(1, 1, 0, 1, 1);
        x.tick(6);
        x.tick(60);
        Check.due("9: it has arrived", x.ticket(2, 6), 3);
        Check.due("9: ended otherwise", x.cancel(2), NOT_POSSIBLE);
    }

    private static void cancelInAHall() {
        MercuryLine x = Setup.twoLines();
        x.book(3, 1, 11, 1, 2);
        x.tick(5);
        Check.due("9: it is in the hall of line 0", x.ticket(0, 6), 2);
        Check.due("9: that line", x.ticket(0, 7), 0);
        Check.due("9: one in the hall", x.line(0, 6), 1);
        Check.due("9: all is refunded from a hall", x.cancel(0), 20);
        Check.due("9: nobody in the hall", x.line(0, 6), 0);
        Check.due("9: line", x.ticket(0, 7), NONE);
        Check.due("9: nothing earned", x.count(12), 0);
    }

    private static void call() {
        MercuryLine x = Setup.twoLines();
        Check.due("10: no station", x.call(2, -1), UNKNOWN);
        Check.due("10: value -1", x.call(1, -1), BAD_VALUE);
        Check.due("10: value 65536", x.call(1, 65536), BAD_VALUE);
        Check.due("10: value 65535", x.call(1, 65535), 1);
        Check.due("10: value 0", x.call(1, 0), 2);
        Check.due("10: a value twice", x.call(1, 65535), 3);
        Check.due("10: a fourth", x.call(1, 5), FULL);
        Check.due("10: value ahead of room", x.call(1, 65536), BAD_VALUE);
        Check.due("10: the first", x.calls(1, 0), 65535);
        Check.due("10: the second", x.calls(1, 1), 0);
        Check.due("10: the third", x.calls(1, 2), 65535);
        Check.due("10: another station", x.calls(11, 0), NONE);
        Check.due("10: recorded", x.undo(), 3);
        Check.due("10: undone", x.station(1, 7), 2);
    }

    private static void callBack() {
        MercuryLine x = Setup.twoLines();
        Check.due("11: no station", x.callBack(-1), UNKNOWN);
        Check.due("11: no call", x.callBack(10), NONE);
        x.call(10, 0);
        x.call(10, 7);
        x.call(10, 8);
        Check.due("11: the first, a 0", x.callBack(10), 0);
        Check.due("11: two are left", x.station(10, 7), 2);
        Check.due("11: the next is first", x.calls(10, 0), 7);
        Check.due("11: the last", x.calls(10, 1), 8);
        Check.due("11: none behind", x.calls(10, 2), NONE);
        Check.due("11: the next", x.callBack(10), 7);
        Check.due("11: the last one", x.callBack(10), 8);
        int recorded = x.count(19);
        Check.due("11: none is left", x.callBack(10), NONE);
        Check.due("11: not recorded", x.count(19), recorded);
        x.undo();
        Check.due("11: undone", x.calls(10, 0), 8);
    }

    private static void order() {
        MercuryLine x = Setup.twoLines();
        Check.due("12: no ticket", x.order(0, 0), UNKNOWN);
        x.book(7, 2, 1, 10, 3);
        Check.due("12: no ticket 1", x.order(1, 1), UNKNOWN);
        Check.due("12: period 0", x.order(0, 0), BAD_VALUE);
        Check.due("12: period 51", x.order(0, 51), BAD_VALUE);
        x.tick(1);
        Check.due("12: the first", x.order(0, 3), 0);
        Check.due("12: nothing is booked yet", x.count(1), 1);
        x.setFare(20);
        x.tick(1);
        Check.due("12: one is booked in the next tick", x.count(1), 2);
        int[] told = {7, 2, 1, 10, 3, 120, -1, -1, -1, 1};
        for (int what = 0; what < told.length; what++) {
            if (what < 6 || what > 8) {
                Check.due("12: ticket(1, " + what + ")", x.ticket(1, what), told[what]);
            }
        }
        x.tick(2);
        Check.due("12: none between", x.count(1), 2);
        x.tick(1);
        Check.due("12: one after the period", x.count(1), 3);
        Check.due("12: its tick", x.ticket(2, 9), 4);
        Check.due("12: booked so far", x.ordered(0, 2), 2);
        Check.due("12: period 50", x.order(1, 50), 1);
        Check.due("12: of a ticket that has ended", x.cancel(0) >= 0);
        Check.due("12: the third", x.order(0, 1), 2);
        Check.due("12: the fourth", x.order(0, 1), 3);
        Check.due("12: a fifth", x.order(0, 1), FULL);
        Check.due("12: period ahead of room", x.order(0, 51), BAD_VALUE);
        x.endOrder(3);
        Check.due("12: ended ones count, too", x.order(0, 1), FULL);
        x.undo();
        x.undo();
        Check.due("12: undone", x.count(17), 3);
    }

    /** The laps of an order are those that were booked, not those that are left. */
    private static void orderTakesWhatWasBooked() {
        MercuryLine x = new MercuryLine();
        x.addStation(0, 0);
        x.addStation(0, 1);
        x.setHeat(0, 10);
        x.book(7, 1, 0, 1, 5);
        x.tick(3);
        Check.due("12: laps are used", x.ticket(0, 4), 3);
        x.order(0, 50);
        x.tick(1);
        Check.due("12: laps of the order", x.ticket(1, 4), 5);
        Check.due("12: paid for them", x.ticket(1, 5), 50);
    }

    private static void endOrder() {
        MercuryLine x = Setup.twoLines();
        x.book(7, 1, 0, 1, 1);
        Check.due("13: no order", x.endOrder(0), UNKNOWN);
        Check.due("13: no order -1", x.endOrder(-1), UNKNOWN);
        x.order(0, 2);
        Check.due("13: it has booked nothing", x.endOrder(0), 0);
        Check.due("13: told", x.ordered(0, 4), 1);
        int recorded = x.count(19);
        Check.due("13: again", x.endOrder(0), NONE);
        Check.due("13: not recorded", x.count(19), recorded);
        x.tick(5);
        Check.due("13: it books nothing", x.count(1), 1);
        Check.due("13: nor is it skipped", x.ordered(0, 3), 0);
        x.undo();
        x.undo();
        Check.due("13: undone", x.ordered(0, 4), 0);
        x.tick(5);
        Check.due("13: it has booked in the ticks 0, 2 and 4", x.endOrder(0), 3);
        Check.due("13: no order 1", x.endOrder(1), UNKNOWN);
    }
}
