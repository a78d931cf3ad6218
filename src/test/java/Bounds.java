import java.util.List;

/**
 * Checks of the bounds that the document names. Each has an office of its own, made anew, so that it stands alone and
 * an office is used for no more calls than the document promises.
 */
final class Bounds {
    /** Makes an office, the same one each time. */
    interface Making {
        DraftsmanOffice office();
    }

    /** A call of an office, whatever it answers; a boolean counts 1 or 0. */
    interface Calling {
        long on(DraftsmanOffice office);
    }

    /** A call with one of its numbers left open. */
    interface NumberCalling {
        long on(DraftsmanOffice office, int number);
    }

    /** A call with its region left open. */
    interface RegionCalling {
        long on(DraftsmanOffice office, int x, int y, int toX, int toY);
    }

    static final int MIN = Integer.MIN_VALUE;
    static final int MAX = Integer.MAX_VALUE;

    /** Regions at their bounds: x, y, toX, toY, and how many fields each has. */
    static final int[][] REGIONS = {
        {0, 0, 0, 0, 1}, {19, 19, 19, 19, 1}, {0, 19, 0, 19, 1}, {19, 0, 19, 0, 1}, {7, 8, 7, 8, 1},
        {7, 8, 8, 8, 2}, {7, 8, 7, 9, 2}, {0, 0, 19, 0, 20}, {0, 0, 0, 19, 20}, {0, 19, 19, 19, 20},
        {19, 0, 19, 19, 20}, {0, 0, 19, 19, 400}, {0, 0, 18, 19, 380}, {1, 0, 19, 18, 361},
    };

    private static final int[][] SECOND_BELOW_FIRST = {
        {8, 0, 7, 0}, {0, 8, 0, 7}, {1, 0, 0, 19}, {0, 1, 19, 0}, {19, 5, 18, 5}, {5, 19, 5, 18}, {19, 19, 0, 0},
    };

    private static final int[][] OUTSIDE = {
        {-1, 0, 0, 0}, {0, -1, 0, 0}, {0, 0, 20, 0}, {0, 0, 0, 20}, {20, 0, 20, 0}, {0, 20, 0, 20}, {-1, 0, -1, 0},
        {0, -1, 0, -1}, {MIN, 0, 0, 0}, {0, MIN, 0, 0}, {0, 0, MAX, 0}, {0, 0, 0, MAX}, {MIN, MIN, MAX, MAX},
        {MAX, 0, MAX, 0}, {0, MAX, 0, MAX}, {32, 0, 32, 0}, {0, 64, 0, 64},
    };

    private final Check check;

    Bounds(String test) {
        this.check = new Check(test);
    }

    /** Tells which sentence of the document the checks from here on stand for. */
    void sentence(String words) {
        check.promise(words);
    }

    void due(String what, long want, long got) {
        check.due(what, want, got);
    }

    void due(String what, double want, double got) {
        check.due(what, want, got);
    }

    /** A call that is taken. */
    void taken(String call, long want, Making making, Calling calling) {
        DraftsmanOffice office = making.office();
        check.compare(call, "answered " + want, Check.outcome(() -> calling.on(office)));
    }

    void noSuch(String call, Making making, Calling calling) {
        refused(call, "throws IndexOutOfBoundsException", making, calling);
    }

    void noArgument(String call, Making making, Calling calling) {
        refused(call, "throws IllegalArgumentException", making, calling);
    }

    void noState(String call, Making making, Calling calling) {
        refused(call, "throws IllegalStateException", making, calling);
    }

    /** A refused call changes nothing: neither what can be asked, nor what comes later. */
    private void refused(String call, String want, Making making, Calling calling) {
        DraftsmanOffice office = making.office();
        List<String> before = Story.now(office);
        check.compare(call, want, Check.outcome(() -> calling.on(office)));
        same(call + " changes: ", before, Story.now(office));
        DraftsmanOffice called = making.office();
        Check.outcome(() -> calling.on(called));
        same(call + " changes later: ", Story.later(making.office()), Story.later(called));
    }

    private void same(String name, List<String> want, List<String> got) {
        int i = 0;
        while (i < want.size() && i < got.size() && want.get(i).equals(got.get(i))) {
            i++;
        }
        String nothing = "nothing";
        check.compare(name, i < want.size() ? want.get(i) : nothing, i < got.size() ? got.get(i) : nothing);
    }

    /** No such sheet: below the first and above the last, with some, with all of them, and with none. */
    void noSuchSheet(String call, NumberCalling calling) {
        noSuchNumber(call, Given.BUSY_SHEETS, Given.MOST_SHEETS, calling);
    }

    void noSuchReference(String call, NumberCalling calling) {
        noSuchNumber(call, Given.BUSY_REFERENCES, Given.MOST_REFERENCES, calling);
    }

    void noSuchSending(String call, NumberCalling calling) {
        noSuchNumber(call, Given.BUSY_SENDINGS, Given.MOST_SENDINGS, calling);
    }

    void noSuchQuery(String call, NumberCalling calling) {
        noSuchNumber(call, Given.BUSY_QUERIES, Given.MOST_QUERIES, calling);
    }

    void noSuchPackage(String call, NumberCalling calling) {
        noSuchNumber(call, Given.BUSY_PACKAGES, Given.MOST_PACKAGES, calling);
    }

    /** No such crew: they are 0 to 3 in every office. */
    void noSuchCrew(String call, NumberCalling calling) {
        for (int crew : new int[] {-1, 4, 32, MIN, MAX}) {
            noSuch(call + " of the crew " + crew, Given::busy, office -> calling.on(office, crew));
        }
    }

    private void noSuchNumber(String call, int inBusy, int inFull, NumberCalling calling) {
        for (int number : new int[] {-1, inBusy, inBusy + 1, inFull, 32, MIN, MAX}) {
            noSuch(call + " of " + number + ", " + inBusy + " there", Given::busy,
                    office -> calling.on(office, number));
        }
        noSuch(call + " of -1, all there", Given::full, office -> calling.on(office, -1));
        noSuch(call + " of " + inFull + ", all there", Given::full, office -> calling.on(office, inFull));
        noSuch(call + " of 0, none there", DraftsmanOffice::new, office -> calling.on(office, 0));
    }

    void noArguments(String call, int[] numbers, Making making, NumberCalling calling) {
        for (int number : numbers) {
            noArgument(call + " " + number, making, office -> calling.on(office, number));
        }
    }

    /** The region is none: its second column or row below the first one. */
    void secondBelowFirst(String call, Making making, RegionCalling calling) {
        noRegion(call, SECOND_BELOW_FIRST, making, calling);
    }

    /** The region is none: a column or a row that is not 0 to 19. */
    void outside(String call, Making making, RegionCalling calling) {
        noRegion(call, OUTSIDE, making, calling);
    }

    private void noRegion(String call, int[][] regions, Making making, RegionCalling calling) {
        for (int[] at : regions) {
            noArgument(call + " " + written(at), making, office -> calling.on(office, at[0], at[1], at[2], at[3]));
        }
    }

    /** Each region at the bounds is taken, and tells its fields. */
    void regions(String call, Making making, RegionCalling calling) {
        for (int[] at : REGIONS) {
            taken(call + " " + written(at), at[4], making, office -> calling.on(office, at[0], at[1], at[2], at[3]));
        }
    }

    static String written(int[] at) {
        return at[0] + ", " + at[1] + " to " + at[2] + ", " + at[3];
    }

    void end() {
        check.end();
    }
}
