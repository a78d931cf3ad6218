/** The bounds that promises 21 to 27 name: each method stands for one sentence. */
public final class PackagesBoundsTest {
    private static final Bounds bounds = new Bounds("PackagesBoundsTest");
    private static final int MIN = Bounds.MIN;
    private static final int MAX = Bounds.MAX;

    public static void main(String[] args) {
        packNoSuchCrew();
        packSheetsBelowOne();
        packSheetThatIsNot();
        packDays();
        packEighth();
        packAllFields();
        packBoth();
        placeNoSuchPackage();
        placeRegion();
        placeDone();
        placeBoth();
        startNoSuchPackage();
        startNeither();
        startNotGood();
        startReturnsDays();
        dayIsOneMore();
        dayOfWorkLess();
        dayDone();
        dayCounts();
        ofPackNoSuchPackage();
        ofPackWhat();
        ofPackNotGood();
        ofPackHowOften();
        manyWhat();
        manyMost();
        meanRevisions();
        bounds.end();
    }

    private static void packNoSuchCrew() {
        bounds.sentence("promise 21: IndexOutOfBoundsException if there is no such CREW");
        bounds.noSuchCrew("pack", (office, crew) -> office.pack(crew, 1, 1));
        for (int i = 0; i <= 3; i++) {
            int crew = i;
            bounds.taken("the crew " + crew, Given.BUSY_PACKAGES, Given::busy, office -> office.pack(crew, 1, 1));
        }
    }

    private static void packSheetsBelowOne() {
        bounds.sentence("promise 21: IllegalArgumentException if sheets is less than 1");
        bounds.noArguments("sheets", new int[] {0, -1, -2, MIN}, Given::busy, (office, set) -> office.pack(0, set, 1));
        bounds.noArguments("sheets", new int[] {0, -1}, () -> Given.sheets(10),
                (office, set) -> office.pack(0, set, 1));
        bounds.taken("sheets 1", 0, () -> Given.sheets(10), office -> office.pack(0, 1, 1));
    }

    private static void packSheetThatIsNot() {
        bounds.sentence("promise 21: IllegalArgumentException if sheets has a SHEET that there is not");
        bounds.noArguments("of 2 sheets:", new int[] {4, 5, 7, 8, 1 << 30, MAX}, () -> Given.sheets(2),
                (office, set) -> office.pack(0, set, 1));
        bounds.noArguments("of 10 sheets:", new int[] {1024, 1025, 2047, 1 << 30, MAX}, () -> Given.sheets(10),
                (office, set) -> office.pack(0, set, 1));
        bounds.noArguments("of no sheets:", new int[] {1, 2, 1023}, DraftsmanOffice::new,
                (office, set) -> office.pack(0, set, 1));
        for (int set : new int[] {1, 2, 512, 513, 1023}) {
            DraftsmanOffice office = Given.sheets(10);
            bounds.due("pack of " + set, 0, office.pack(0, set, 1));
            bounds.due("its sheets " + set, set, office.ofPack(0, 1));
        }
        bounds.taken("all of 2", 0, () -> Given.sheets(2), office -> office.pack(0, 3, 1));
    }

    private static void packDays() {
        bounds.sentence("promise 21: IllegalArgumentException if days is not 1 to 9");
        bounds.noArguments("days", new int[] {0, -1, 10, 11, MIN, MAX}, Given::busy,
                (office, days) -> office.pack(0, 1, days));
        for (int days = 1; days <= 9; days++) {
            DraftsmanOffice office = Given.sheets(1);
            bounds.due("pack for days " + days, 0, office.pack(0, 1, days));
            bounds.due("its days " + days, days, office.ofPack(0, 3));
        }
    }

    private static void packEighth() {
        bounds.sentence("promise 21: IllegalStateException if there are 8");
        bounds.taken("the eighth", 7, () -> packages(7), office -> office.pack(3, 1, 9));
        bounds.noState("the ninth", () -> packages(8), office -> office.pack(3, 1, 9));
        bounds.noState("the ninth, all done", PackagesBoundsTest::eightDone, office -> office.pack(3, 1, 9));
        bounds.noState("the ninth, all full", Given::full, office -> office.pack(0, 1, 1));
    }

    /** Packages of one day by a sheet that their crew has. */
    private static DraftsmanOffice packages(int count) {
        DraftsmanOffice office = Given.handedSheet();
        for (int i = 0; i < count; i++) {
            office.pack(0, 1, 1);
        }
        return office;
    }

    private static DraftsmanOffice running(int count) {
        DraftsmanOffice office = packages(count);
        for (int i = 0; i < count; i++) {
            office.start(i);
        }
        return office;
    }

    private static DraftsmanOffice eightDone() {
        DraftsmanOffice office = running(8);
        office.day();
        return office;
    }

    private static void packAllFields() {
        bounds.sentence("promise 21: with the REGION of all FIELDS");
        for (int[] field : new int[][] {{0, 0}, {19, 0}, {0, 19}, {19, 19}, {9, 10}}) {
            DraftsmanOffice office = packages(1);
            bounds.due("good", 0, office.ofPack(0, 5));
            office.query(0, field[0], field[1], field[0], field[1]);
            bounds.due("a cloud over " + field[0] + ", " + field[1], 4, office.ofPack(0, 5));
        }
    }

    private static void packBoth() {
        bounds.sentence("promise 21: several exceptions apply");
        bounds.noSuch("no crew, no sheets", Given::busy, office -> office.pack(4, 0, 1));
        bounds.noSuch("no crew, no days", Given::busy, office -> office.pack(-1, 1, 0));
        bounds.noSuch("no crew, 8 there", Given::full, office -> office.pack(4, 1, 1));
        bounds.noSuch("no crew, no such sheet, no days, 8 there", Given::full, office -> office.pack(-1, 1024, 10));
        bounds.noArgument("no sheets, no days", Given::busy, office -> office.pack(0, 0, 0));
        bounds.noArgument("no sheets, 8 there", Given::full, office -> office.pack(0, 0, 1));
        bounds.noArgument("no such sheet, 8 there", Given::full, office -> office.pack(0, 1024, 1));
        bounds.noArgument("no days, 8 there", Given::full, office -> office.pack(0, 1, 10));
    }

    private static void placeNoSuchPackage() {
        bounds.sentence("promise 22: IndexOutOfBoundsException if there is no such PACKAGE");
        bounds.noSuchPackage("place", (office, pack) -> office.place(pack, 0, 0, 0, 0));
        bounds.taken("the first", 1, () -> packages(8), office -> office.place(0, 0, 0, 0, 0));
        bounds.taken("the last", 1, () -> packages(8), office -> office.place(7, 0, 0, 0, 0));
    }

    private static void placeRegion() {
        bounds.sentence("promise 22: IllegalArgumentException if the REGION is none");
        for (int i : new int[] {Given.RUNNING, Given.STOPPED, Given.WAITING}) {
            int pack = i;
            Bounds.RegionCalling place = (office, x, y, toX, toY) -> office.place(pack, x, y, toX, toY);
            bounds.regions("place " + pack, Given::busy, place);
            bounds.secondBelowFirst("place " + pack, Given::busy, place);
            bounds.outside("place " + pack, Given::busy, place);
        }
    }

    private static void placeDone() {
        bounds.sentence("promise 22: IllegalStateException if it is DONE");
        bounds.noState("a done one", Given::busy, office -> office.place(Given.DONE, 10, 10, 11, 11));
        bounds.taken("a running one", 4, Given::busy, office -> office.place(Given.RUNNING, 0, 0, 1, 1));
        bounds.taken("a stopped one", 4, Given::busy, office -> office.place(Given.STOPPED, 0, 0, 1, 1));
        bounds.taken("a waiting one", 4, Given::busy, office -> office.place(Given.WAITING, 0, 0, 1, 1));
        bounds.noState("the last of 8, done", PackagesBoundsTest::eightDone, office -> office.place(7, 0, 0, 19, 19));
    }

    private static void placeBoth() {
        bounds.sentence("promise 22: several exceptions apply");
        bounds.noSuch("no package, no region", Given::busy, office -> office.place(4, 1, 0, 0, 0));
        bounds.noSuch("no package, no region, all full", Given::full, office -> office.place(8, 0, 0, 20, 0));
        bounds.noArgument("no region, done", Given::busy, office -> office.place(Given.DONE, 0, 1, 0, 0));
        bounds.noArgument("outside, done", Given::busy, office -> office.place(Given.DONE, 0, 0, 0, 20));
    }

    private static void startNoSuchPackage() {
        bounds.sentence("promise 23: IndexOutOfBoundsException if there is no such PACKAGE");
        bounds.noSuchPackage("start", DraftsmanOffice::start);
        bounds.taken("the first", 1, () -> packages(8), office -> office.start(0));
        bounds.taken("the last", 1, () -> packages(8), office -> office.start(7));
    }

    private static void startNeither() {
        bounds.sentence("promise 23: IllegalStateException if it is neither (WAITING nor STOPPED)");
        bounds.noState("a running one", Given::busy, office -> office.start(Given.RUNNING));
        bounds.noState("a done one", Given::busy, office -> office.start(Given.DONE));
        bounds.noState("a done one by a good sheet", () -> {
            DraftsmanOffice office = running(1);
            office.day();
            return office;
        }, office -> office.start(0));
        bounds.taken("a waiting one", 1, () -> packages(1), office -> office.start(0));
        bounds.taken("a stopped one", 1, PackagesBoundsTest::stoppedAndGood, office -> office.start(0));
    }

    private static DraftsmanOffice stoppedAndGood() {
        DraftsmanOffice office = running(1);
        office.query(0, 0, 0, 0, 0);
        office.answer(0, false);
        return office;
    }

    private static void startNotGood() {
        bounds.sentence("promise 23: IllegalStateException if it needs a SHEET that is not GOOD");
        bounds.noState("a stopped one, a cloud", Given::busy, office -> office.start(Given.STOPPED));
        bounds.noState("a waiting one, not with its crew", Given::busy, office -> office.start(Given.WAITING));
        bounds.noState("the first of 10", () -> tenBut(0), office -> office.start(0));
        bounds.noState("the last of 10", () -> tenBut(9), office -> office.start(0));
        bounds.noState("one in the middle of 10", () -> tenBut(5), office -> office.start(0));
        bounds.taken("all of 10 are good", 4, () -> tenBut(Given.NONE), office -> office.start(0));
        bounds.taken("one that it does not need", 1, () -> tenBut(5),
                office -> office.start(office.pack(0, 1023 & ~32, 1)));
    }

    /** A package of the crew 0 that needs ten sheets, of which it has all but one. */
    private static DraftsmanOffice tenBut(int missing) {
        DraftsmanOffice office = Given.issuedSheets(10);
        Given.hand(office, 0, missing == Given.NONE ? 1023 : 1023 & ~(1 << missing));
        office.pack(0, 1023, 4);
        return office;
    }

    private static void startReturnsDays() {
        bounds.sentence("promise 23: returns how many DAYS of work are left");
        for (int i = 1; i <= 9; i++) {
            int days = i;
            bounds.taken("of " + days, days, () -> packages(1), office -> office.start(office.pack(0, 1, days)));
        }
        bounds.taken("of 9, 8 of them worked", 1, () -> {
            DraftsmanOffice office = packages(0);
            Given.startNew(office, 0, 1, 9);
            Given.days(office, 8);
            office.query(0, 0, 0, 0, 0);
            office.answer(0, false);
            return office;
        }, office -> office.start(0));
    }

    private static void dayIsOneMore() {
        bounds.sentence("promise 24: the DAY is 1 more");
        DraftsmanOffice office = new DraftsmanOffice();
        for (int day = 0; day < 20; day++) {
            bounds.due("the day", day, office.many(12));
            bounds.due("none are done", 0, office.day());
        }
        bounds.due("the day", 20, office.many(12));
    }

    private static void dayOfWorkLess() {
        bounds.sentence("promise 24: each PACKAGE that is RUNNING has a DAY of work less");
        bounds.taken("a running one", 3, () -> nextDay(Given.busy()), office -> office.ofPack(Given.RUNNING, 3));
        bounds.taken("a stopped one", 5, () -> nextDay(Given.busy()), office -> office.ofPack(Given.STOPPED, 3));
        bounds.taken("a waiting one", 3, () -> nextDay(Given.busy()), office -> office.ofPack(Given.WAITING, 3));
        bounds.taken("a done one", 0, () -> nextDay(Given.busy()), office -> office.ofPack(Given.DONE, 3));
        for (int i = 0; i < 8; i++) {
            int pack = i;
            bounds.taken("each of 8", 1, () -> {
                DraftsmanOffice office = Given.handedSheet();
                for (int j = 0; j < 8; j++) {
                    Given.startNew(office, 0, 1, 2);
                }
                return nextDay(office);
            }, office -> office.ofPack(pack, 3));
        }
    }

    private static DraftsmanOffice nextDay(DraftsmanOffice office) {
        office.day();
        return office;
    }

    private static void dayDone() {
        bounds.sentence("promise 24: those with none left are DONE");
        for (int days = 1; days <= 9; days++) {
            DraftsmanOffice office = Given.handedSheet();
            Given.startNew(office, 0, 1, days);
            for (int left = days; left > 0; left--) {
                bounds.due("it is running with " + left, 1, office.ofPack(0, 2));
                bounds.due("days left", left, office.ofPack(0, 3));
                bounds.due("done by the day", left == 1 ? 1 : 0, office.day());
            }
            bounds.due("it is done", 3, office.ofPack(0, 2));
            bounds.due("no days left", 0, office.ofPack(0, 3));
            bounds.due("it is done but once", 0, office.day());
        }
    }

    private static void dayCounts() {
        bounds.sentence("promise 24: returns how many are DONE by that");
        bounds.taken("without packages", 0, DraftsmanOffice::new, DraftsmanOffice::day);
        bounds.taken("8 that wait", 0, () -> packages(8), DraftsmanOffice::day);
        bounds.taken("8 that run", 8, () -> running(8), DraftsmanOffice::day);
        bounds.taken("8 that are done", 0, PackagesBoundsTest::eightDone, DraftsmanOffice::day);
        bounds.taken("8 that are stopped", 0, () -> {
            DraftsmanOffice office = running(8);
            office.query(0, 0, 0, 0, 0);
            return office;
        }, DraftsmanOffice::day);
    }

    private static void ofPackNoSuchPackage() {
        bounds.sentence("promise 25: IndexOutOfBoundsException if there is no such PACKAGE");
        bounds.noSuchPackage("ofPack", (office, pack) -> office.ofPack(pack, 0));
        bounds.noSuchPackage("ofPack of no what,", (office, pack) -> office.ofPack(pack, 7));
        bounds.taken("of the last", 3, Given::full, office -> office.ofPack(7, 0));
    }

    private static void ofPackWhat() {
        bounds.sentence("promise 25: IllegalArgumentException if what is not 0 to 6");
        bounds.noArguments("what", new int[] {-1, 7, 8, MIN, MAX}, Given::busy,
                (office, what) -> office.ofPack(0, what));
        long[] answers = {0, 1 << Given.CHECKED_BESIDE_ISSUED, 2, 5, Given.CHECKED_BESIDE_ISSUED, 4, 1};
        for (int i = 0; i <= 6; i++) {
            int what = i;
            bounds.taken("what " + what, answers[what], Given::busy, office -> office.ofPack(Given.STOPPED, what));
        }
    }

    private static void ofPackNotGood() {
        bounds.sentence("promise 25: 4 the first SHEET that it needs that is not GOOD (NONE), 5 what is wrong (0)");
        bounds.taken("all are good", Given.NONE, () -> tenBut(Given.NONE), office -> office.ofPack(0, 4));
        bounds.taken("nothing is wrong", 0, () -> tenBut(Given.NONE), office -> office.ofPack(0, 5));
        for (int i = 0; i <= 9; i++) {
            int missing = i;
            bounds.taken("the sheet " + missing, missing, () -> tenBut(missing), office -> office.ofPack(0, 4));
            bounds.taken("what is wrong with " + missing, 2, () -> tenBut(missing), office -> office.ofPack(0, 5));
        }
        DraftsmanOffice office = Given.handedSheets(3);
        office.sheet(0);
        office.query(2, 0, 0, 0, 0);
        office.pack(0, 13, 1);
        office.pack(0, 9, 1);
        bounds.due("the first of two", 2, office.ofPack(0, 4));
        bounds.due("what is wrong with that", 4, office.ofPack(0, 5));
        bounds.due("one that it needs", 3, office.ofPack(1, 4));
        bounds.due("what is wrong with it", 1, office.ofPack(1, 5));
    }

    private static void ofPackHowOften() {
        bounds.sentence("promise 25: 6 how often it was STOPPED");
        DraftsmanOffice office = packages(1);
        for (int stops = 0; stops < 20; stops++) {
            bounds.due("stopped so far", stops, office.ofPack(0, 6));
            office.start(0);
            bounds.due("started", stops, office.ofPack(0, 6));
            office.query(0, 0, 0, 0, 0);
            bounds.due("stopped", stops + 1L, office.ofPack(0, 6));
            office.answer(stops, false);
        }
    }

    private static void manyWhat() {
        bounds.sentence("promise 26: IllegalArgumentException if what is not 0 to 12");
        bounds.noArguments("what", new int[] {-1, 13, 14, MIN, MAX}, Given::busy, DraftsmanOffice::many);
        bounds.noArguments("what", new int[] {-1, 13}, DraftsmanOffice::new, DraftsmanOffice::many);
        long[] answers = {5, 3, 2, 2, 3, 2, 1, 4, 1, 1, 1, 1, 6};
        for (int i = 0; i <= 12; i++) {
            int what = i;
            bounds.taken("what " + what, answers[what], Given::busy, office -> office.many(what));
            bounds.taken("what " + what + " of none", 0, DraftsmanOffice::new, office -> office.many(what));
        }
    }

    private static void manyMost() {
        bounds.sentence("promise 26: the most of each");
        bounds.taken("10 sheets", 10, Given::full, office -> office.many(0));
        bounds.taken("20 references", 20, Given::full, office -> office.many(1));
        bounds.taken("20 broken ones", 20, () -> {
            DraftsmanOffice office = Given.sheets(2);
            for (int i = 0; i < 20; i++) {
                office.refer(0, 1, 7);
            }
            return office;
        }, office -> office.many(2));
        bounds.taken("20 sendings", 20, Given::full, office -> office.many(3));
        bounds.taken("20 queries", 20, Given::full, office -> office.many(4));
        bounds.taken("19 that are not closed", 19, Given::full, office -> office.many(5));
        bounds.taken("25 pairs of 5 and 5", 25, () -> {
            DraftsmanOffice office = new DraftsmanOffice();
            for (int i = 0; i < 10; i++) {
                Given.addIssued(office, i % 2, 0, 0, 0, 0, 0);
            }
            return office;
        }, office -> office.many(6));
        bounds.taken("8 packages", 8, Given::full, office -> office.many(7));
        bounds.taken("8 that wait", 8, () -> packages(8), office -> office.many(8));
        bounds.taken("8 that run", 8, () -> running(8), office -> office.many(9));
        bounds.taken("8 that are stopped", 8, () -> {
            DraftsmanOffice office = running(8);
            office.query(0, 0, 0, 0, 0);
            return office;
        }, office -> office.many(10));
        bounds.taken("8 that are done", 8, PackagesBoundsTest::eightDone, office -> office.many(11));
    }

    private static void meanRevisions() {
        bounds.sentence("promise 27: the mean number of REVISIONS of a SHEET, not cut; 0 without SHEETS");
        bounds.due("without sheets", 0.0, new DraftsmanOffice().meanRevisions());
        bounds.due("of one sheet", 1.0, Given.sheets(1).meanRevisions());
        bounds.due("of ten sheets", 1.0, Given.sheets(10).meanRevisions());
        DraftsmanOffice office = Given.issuedSheets(10);
        double revisions = 10;
        for (int sheet = 0; sheet < 10; sheet++) {
            for (int revision = 1; revision < 6; revision++) {
                office.revise(sheet);
                revisions++;
                bounds.due(revisions + " of ten", revisions / 10, office.meanRevisions());
                Given.issue(office, sheet);
            }
        }
        bounds.due("sixty of ten", 6.0, office.meanRevisions());
        DraftsmanOffice three = Given.issuedSheets(3);
        three.revise(1);
        bounds.due("four of three", 4.0 / 3.0, three.meanRevisions());
    }
}
