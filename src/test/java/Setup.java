/** Objects that several tests begin with. */
final class Setup {
    private Setup() {
    }

    /** A line 0 of some slots with stations at these offsets. */
    static MercuryLine oneLine(int slots, int... offsets) {
        MercuryLine x = new MercuryLine();
        x.build(0, slots);
        for (int offset : offsets) {
            x.addStation(0, offset);
        }
        return x;
    }

    /** Both lines of eight slots, with stations at the offsets 0 and 4. */
    static MercuryLine twoLines() {
        MercuryLine x = new MercuryLine();
        for (int line = 0; line < 2; line++) {
            x.addStation(line, 0);
            x.addStation(line, 4);
        }
        return x;
    }
}
