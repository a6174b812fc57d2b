/** Objects that several tests begin with. */
final class Setup {
    private Setup() {
    }

    /** A line 0 of some slots with stations at these offsets. */
    static MercuryLine oneLine(int slots, int... offsets) {
        MercuryLine x = new MercuryLine();
        x.build(0, slots);
        for (int offset : offsets) {
            x.addStation(0, offset);
        }
        return x;
    }

    /** Both lines of eight slots, with stations at the offsets 0 and 4. */
    static MercuryLine twoLines() {
        MercuryLine x = new MercuryLine();
        for (int line = 0; line < 2; line++) {
            x.addStation(line, 0);
            x.addStation(line, 4);
        }
        return x;
    }

    /** Both lines of four slots, with stations at the offsets 0 and 2: two ticks from one to the other. */
    static MercuryLine shortLines() {
        MercuryLine x = oneLine(4, 0, 2);
        x.build(1, 4);
        x.addStation(1, 0);
        x.addStation(1, 2);
        return x;
    }

    /** Short lines on which ticket 0 (value 5, class 1, two laps, paid 20) is in a state, from 0 to 8. */
    static MercuryLine inState(int state) {
        MercuryLine x = shortLines();
        x.setPatience(0);
        x.setHeat(0, state == 5 || state == 6 ? 10 : 0);
        if (state == 2) {
            x.book(5, 1, 11, 1, 2);
        } else if (state == 4) {
            x.book(5, 1, 1, 11, 2);
            x.call(0, 5);
        } else {
            x.book(5, 1, 0, 1, 2);
        }
        if (state == 5) {
            x.tick(1);
            x.book(6, 2, 0, 1, 2);
        }
        int[] ticks = {0, 1, 3, 3, 3, 1, 3, 1, 0};
        if (ticks[state] > 0) {
            x.tick(ticks[state]);
        }
        if (state == 7) {
            x.drain(0);
        } else if (state == 8) {
            x.cancel(0);
        }
        return x;
    }

    /**
     * Ticket 0, of value 90 and some class, stands at the junction of line 0 for ever, where it loses
     * no laps, as it boarded elsewhere: three slots, three stations, and a heat of 10. Line 1 is a
     * short one. One tick has passed.
     */
    static MercuryLine blockedJunction(int kind) {
        MercuryLine x = oneLine(3, 0, 1, 2);
        x.build(1, 4);
        x.addStation(1, 0);
        x.addStation(1, 2);
        x.book(90, kind, 1, 2, 9);
        x.tick(1);
        x.setHeat(0, 10);
        return x;
    }

    /** A blocked junction, with the tickets 1 to 3, of class 1, in the hall of line 0. Six ticks have passed. */
    static MercuryLine fullHall() {
        MercuryLine x = blockedJunction(3);
        for (int value = 1; value <= 3; value++) {
            x.book(value, 1, 11, 1, 9);
        }
        x.tick(5);
        return x;
    }

    /** As many tickets as a number, of a value that is the ticket's number, from station 0 to station 1. */
    static MercuryLine booked(int tickets) {
        MercuryLine x = twoLines();
        for (int i = 0; i < tickets; i++) {
            x.book(i, 1, 0, 1, 1);
        }
        return x;
    }

    static MercuryLine typed(MercuryLine x, String text) {
        for (int i = 0; i < text.length(); i++) {
            x.type(text.charAt(i));
        }
        return x;
    }
}
