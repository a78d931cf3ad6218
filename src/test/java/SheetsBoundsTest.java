/** The bounds that promises 1 to 10 name: each method stands for one sentence. */
public final class SheetsBoundsTest {
    private static final Bounds bounds = new Bounds("SheetsBoundsTest");
    private static final int MIN = Bounds.MIN;
    private static final int MAX = Bounds.MAX;

    public static void main(String[] args) {
        newOfficeIsEmpty();
        sheetTrade();
        sheetTenth();
        sheetBoth();
        drawNoSuchSheet();
        drawRegion();
        drawDetails();
        drawDraft();
        drawBoth();
        reviseNoSuchSheet();
        reviseByStatus();
        reviseSixth();
        reviseBeginsAsTheLast();
        checkNoSuchSheet();
        checkDraft();
        checkCounts();
        issueNoSuchSheet();
        issueChecked();
        issueBroken();
        issueCounts();
        referNoSuchSheet();
        referArguments();
        referTwentieth();
        referDraft();
        referBoth();
        ofSheetNoSuchSheet();
        ofSheetWhat();
        ofSheetLeast();
        ofSheetMost();
        statusNoSuch();
        holdsNoSuch();
        bounds.end();
    }

    private static void newOfficeIsEmpty() {
        bounds.sentence("promise 1: an office without SHEETS");
        for (int i = 0; i <= 12; i++) {
            int what = i;
            bounds.taken("many(" + what + ")", 0, DraftsmanOffice::new, office -> office.many(what));
        }
        bounds.taken("the first sheet", 0, DraftsmanOffice::new, office -> office.sheet(0));
    }

    private static void sheetTrade() {
        bounds.sentence("promise 2: IllegalArgumentException if trade is not 0 to 3");
        for (int i = 0; i <= 3; i++) {
            int trade = i;
            bounds.taken("sheet(" + trade + ")", Given.BUSY_SHEETS, Given::busy, office -> office.sheet(trade));
        }
        bounds.noArguments("sheet", new int[] {-1, 4, MIN, MAX}, Given::busy, DraftsmanOffice::sheet);
        bounds.noArguments("sheet", new int[] {-1, 4, MIN, MAX}, DraftsmanOffice::new, DraftsmanOffice::sheet);
    }

    private static void sheetTenth() {
        bounds.sentence("promise 2: IllegalStateException if there are 10");
        bounds.taken("the tenth", 9, () -> Given.sheets(9), office -> office.sheet(3));
        bounds.noState("the eleventh", () -> Given.sheets(10), office -> office.sheet(3));
        bounds.noState("the eleventh, all full", Given::full, office -> office.sheet(0));
    }

    private static void sheetBoth() {
        bounds.sentence("promise 2: no trade, and there are 10");
        bounds.noArguments("sheet", new int[] {-1, 4}, () -> Given.sheets(10), DraftsmanOffice::sheet);
        bounds.noArguments("sheet", new int[] {-1, 4}, Given::full, DraftsmanOffice::sheet);
    }

    private static void drawNoSuchSheet() {
        bounds.sentence("promise 3: IndexOutOfBoundsException if there is no such SHEET");
        bounds.noSuchSheet("draw", (office, sheet) -> office.draw(sheet, 0, 0, 1, 1, 1));
        bounds.taken("draw the first", 4, () -> Given.sheets(10), office -> office.draw(0, 0, 0, 1, 1, 1));
        bounds.taken("draw the last", 4, () -> Given.sheets(10), office -> office.draw(9, 0, 0, 1, 1, 1));
    }

    private static void drawRegion() {
        bounds.sentence("promise 3: IllegalArgumentException if the REGION is none");
        Bounds.RegionCalling draw = (office, x, y, toX, toY) -> office.draw(Given.NEW, x, y, toX, toY, 1);
        bounds.regions("draw", Given::busy, draw);
        bounds.secondBelowFirst("draw", Given::busy, draw);
        bounds.outside("draw", Given::busy, draw);
    }

    private static void drawDetails() {
        bounds.sentence("promise 3: IllegalArgumentException if details is not 0 to 255");
        Bounds.NumberCalling draw = (office, details) -> office.draw(Given.NEW, 0, 0, 0, 0, details);
        bounds.noArguments("details", new int[] {-1, 256, 257, 511, MIN, MAX}, Given::busy, draw);
        for (int details : new int[] {0, 1, 127, 128, 254, 255}) {
            DraftsmanOffice office = Given.sheets(1);
            bounds.due("draw with details " + details, 1, office.draw(0, 0, 0, 0, 0, details));
            Given.issue(office, 0);
            bounds.due("the details " + details, details, office.ofSheet(0, 5));
        }
    }

    private static void drawDraft() {
        bounds.sentence("promise 3: IllegalStateException if that REVISION is no DRAFT");
        bounds.taken("a new draft", 1, Given::busy, office -> office.draw(Given.NEW, 0, 0, 0, 0, 0));
        bounds.taken("a draft beside an issued one", 1, Given::busy,
                office -> office.draw(Given.DRAFT_BESIDE_ISSUED, 0, 0, 0, 0, 0));
        bounds.noState("a new one that is checked", Given::busy,
                office -> office.draw(Given.CHECKED_WITH_BROKEN, 0, 0, 0, 0, 0));
        bounds.noState("a checked one beside an issued one", Given::busy,
                office -> office.draw(Given.CHECKED_BESIDE_ISSUED, 0, 0, 0, 0, 0));
        bounds.noState("an issued one", Given::busy, office -> office.draw(Given.ISSUED, 0, 0, 0, 0, 0));
        bounds.noState("the sixth, issued", Given::full, office -> office.draw(9, 0, 0, 0, 0, 0));
    }

    private static void drawBoth() {
        bounds.sentence("promise 3: several exceptions apply");
        bounds.noSuch("no sheet, no region", Given::busy, office -> office.draw(5, 1, 0, 0, 0, 0));
        bounds.noSuch("no sheet, no details", Given::busy, office -> office.draw(-1, 0, 0, 0, 0, 256));
        bounds.noSuch("no sheet, no region, no details", Given::busy, office -> office.draw(5, 0, 0, 20, 0, -1));
        bounds.noArgument("no region, no details", Given::busy, office -> office.draw(Given.NEW, 0, 0, 0, 20, 256));
        bounds.noArgument("no region, no draft", Given::busy, office -> office.draw(Given.ISSUED, 0, 1, 0, 0, 0));
        bounds.noArgument("no details, no draft", Given::busy, office -> office.draw(Given.ISSUED, 0, 0, 0, 0, 256));
        bounds.noArgument("no region, no details, a checked one", Given::busy,
                office -> office.draw(Given.CHECKED_WITH_BROKEN, -1, 0, 0, 0, -1));
    }

    private static void reviseNoSuchSheet() {
        bounds.sentence("promise 4: IndexOutOfBoundsException if there is no such SHEET");
        bounds.noSuchSheet("revise", DraftsmanOffice::revise);
        bounds.taken("revise the first", 1, () -> Given.issuedSheets(10), office -> office.revise(0));
        bounds.taken("revise the last", 1, () -> Given.issuedSheets(10), office -> office.revise(9));
    }

    private static void reviseByStatus() {
        bounds.sentence("promise 4: IllegalStateException if the last one is a DRAFT, or CHECKED");
        bounds.taken("an issued one", 1, Given::busy, office -> office.revise(Given.ISSUED));
        bounds.noState("a new draft", Given::busy, office -> office.revise(Given.NEW));
        bounds.noState("a draft beside an issued one", Given::busy,
                office -> office.revise(Given.DRAFT_BESIDE_ISSUED));
        bounds.noState("a new one that is checked", Given::busy, office -> office.revise(Given.CHECKED_WITH_BROKEN));
        bounds.noState("a checked one beside an issued one", Given::busy,
                office -> office.revise(Given.CHECKED_BESIDE_ISSUED));
    }

    private static void reviseSixth() {
        bounds.sentence("promise 4: IllegalStateException if there are 6");
        bounds.taken("the sixth", 5, SheetsBoundsTest::fiveRevisions, office -> office.revise(0));
        bounds.noState("the seventh", SheetsBoundsTest::sixRevisions, office -> office.revise(0));
        bounds.noState("the seventh, all full", Given::full, office -> office.revise(9));
        bounds.noState("six, the last one a draft", SheetsBoundsTest::sixthIsDraft, office -> office.revise(0));
        bounds.noState("six, the last one checked", SheetsBoundsTest::sixthIsChecked, office -> office.revise(0));
    }

    private static DraftsmanOffice fiveRevisions() {
        DraftsmanOffice office = Given.issuedSheets(1);
        for (int i = 1; i < 5; i++) {
            Given.reissue(office, 0);
        }
        return office;
    }

    private static DraftsmanOffice sixRevisions() {
        DraftsmanOffice office = sixthIsChecked();
        office.issue(0);
        return office;
    }

    private static DraftsmanOffice sixthIsDraft() {
        DraftsmanOffice office = fiveRevisions();
        office.revise(0);
        return office;
    }

    private static DraftsmanOffice sixthIsChecked() {
        DraftsmanOffice office = sixthIsDraft();
        office.check(0);
        return office;
    }

    private static void reviseBeginsAsTheLast() {
        bounds.sentence("promise 4: with REGION and DETAILS as the last one");
        DraftsmanOffice office = Given.sheets(1);
        office.draw(0, 0, 3, 1, 3, 6);
        Given.issue(office, 0);
        office.revise(0);
        office.draw(0, 0, 3, 4, 3, 9);
        Given.issue(office, 0);
        for (int revision = 2; revision < 6; revision++) {
            bounds.due("begun", revision, office.revise(0));
            bounds.due("a draft", 0, office.status(0, revision));
            Given.issue(office, 0);
            bounds.due("its fields", 5, office.ofSheet(0, 4));
            bounds.due("its details", 9, office.ofSheet(0, 5));
        }
    }

    private static void checkNoSuchSheet() {
        bounds.sentence("promise 5: IndexOutOfBoundsException if there is no such SHEET");
        bounds.noSuchSheet("check", DraftsmanOffice::check);
        bounds.taken("check the first", 0, () -> Given.sheets(10), office -> office.check(0));
        bounds.taken("check the last", 0, () -> Given.sheets(10), office -> office.check(9));
    }

    private static void checkDraft() {
        bounds.sentence("promise 5: IllegalStateException if it is no DRAFT");
        bounds.taken("a new draft, one reference broken", 1, Given::busy, office -> office.check(Given.NEW));
        bounds.taken("a draft beside an issued one", 0, Given::busy,
                office -> office.check(Given.DRAFT_BESIDE_ISSUED));
        bounds.noState("a new one that is checked", Given::busy, office -> office.check(Given.CHECKED_WITH_BROKEN));
        bounds.noState("a checked one beside an issued one", Given::busy,
                office -> office.check(Given.CHECKED_BESIDE_ISSUED));
        bounds.noState("an issued one", Given::busy, office -> office.check(Given.ISSUED));
        bounds.noState("the sixth, issued", Given::full, office -> office.check(9));
    }

    private static void checkCounts() {
        bounds.sentence("promise 5: returns how many REFERENCES from that SHEET are BROKEN");
        bounds.taken("none there", 0, () -> Given.sheets(2), office -> office.check(0));
        bounds.taken("all 20", 20, SheetsBoundsTest::twentyBroken, office -> office.check(0));
        bounds.taken("those to it do not count", 0, SheetsBoundsTest::twentyBroken, office -> office.check(1));
    }

    /** All references from the sheet 0 to the sheet 1, which has no issued revision. */
    private static DraftsmanOffice twentyBroken() {
        DraftsmanOffice office = Given.sheets(2);
        references(office, 20);
        return office;
    }

    private static void references(DraftsmanOffice office, int count) {
        for (int i = 0; i < count; i++) {
            office.refer(0, 1, i % 8);
        }
    }

    private static void issueNoSuchSheet() {
        bounds.sentence("promise 6: IndexOutOfBoundsException if there is no such SHEET");
        bounds.noSuchSheet("issue", DraftsmanOffice::issue);
        bounds.taken("issue the first", 0, SheetsBoundsTest::firstAndLastChecked, office -> office.issue(0));
        bounds.taken("issue the last", 0, SheetsBoundsTest::firstAndLastChecked, office -> office.issue(9));
    }

    private static DraftsmanOffice firstAndLastChecked() {
        DraftsmanOffice office = Given.sheets(10);
        office.check(0);
        office.check(9);
        return office;
    }

    private static void issueChecked() {
        bounds.sentence("promise 6: IllegalStateException if it is not CHECKED");
        bounds.taken("a checked one", 2, Given::busy, office -> {
            office.issue(Given.CHECKED_BESIDE_ISSUED);
            return office.status(Given.CHECKED_BESIDE_ISSUED, 1);
        });
        bounds.taken("the one that was issued", 3, Given::busy, office -> {
            office.issue(Given.CHECKED_BESIDE_ISSUED);
            return office.status(Given.CHECKED_BESIDE_ISSUED, 0);
        });
        bounds.noState("a new draft", () -> Given.sheets(1), office -> office.issue(0));
        bounds.noState("a draft beside an issued one", Given::busy, office -> office.issue(Given.DRAFT_BESIDE_ISSUED));
        bounds.noState("an issued one", Given::busy, office -> office.issue(Given.ISSUED));
        bounds.noState("the sixth, issued", Given::full, office -> office.issue(9));
        bounds.noState("a draft with a broken reference", Given::busy, office -> office.issue(Given.NEW));
        bounds.taken("the sixth, checked", 0, SheetsBoundsTest::sixthIsChecked, office -> office.issue(0));
    }

    private static void issueBroken() {
        bounds.sentence("promise 6: IllegalStateException if a REFERENCE from that SHEET is BROKEN");
        bounds.noState("to a sheet that is not issued", Given::busy, office -> office.issue(Given.CHECKED_WITH_BROKEN));
        bounds.noState("all 20", SheetsBoundsTest::twentyBrokenChecked, office -> office.issue(0));
        bounds.noState("one of 20", () -> checkedReferences(127), office -> office.issue(0));
        bounds.taken("none of 20", 0, () -> checkedReferences(255), office -> office.issue(0));
        bounds.taken("those to it are no hindrance", 0, SheetsBoundsTest::twentyBrokenChecked,
                office -> office.issue(1));
    }

    private static DraftsmanOffice twentyBrokenChecked() {
        DraftsmanOffice office = twentyBroken();
        office.check(0);
        office.check(1);
        return office;
    }

    /** Twenty references to a sheet with these details, only one of them to the detail 7. */
    private static DraftsmanOffice checkedReferences(int details) {
        DraftsmanOffice office = Given.sheets(2);
        office.draw(1, 0, 0, 0, 0, details);
        Given.issue(office, 1);
        for (int i = 0; i < 19; i++) {
            office.refer(0, 1, i % 7);
        }
        office.refer(0, 1, 7);
        office.check(0);
        return office;
    }

    private static void issueCounts() {
        bounds.sentence("promise 6: returns how many PACKAGES are STOPPED by that");
        bounds.taken("none there", 0, SheetsBoundsTest::firstAndLastChecked, office -> office.issue(0));
        bounds.taken("all 8", 8, () -> running(8), SheetsBoundsTest::reissueFirst);
        bounds.taken("the one that runs of 8", 1, () -> running(1), SheetsBoundsTest::reissueFirst);
        bounds.taken("none that runs of 8", 0, () -> running(0), SheetsBoundsTest::reissueFirst);
        bounds.taken("those stopped before do not count", 0, () -> running(8), office -> {
            reissueFirst(office);
            return reissueFirst(office);
        });
    }

    private static long reissueFirst(DraftsmanOffice office) {
        return Given.reissue(office, 0);
    }

    /** Eight packages, of which some run. */
    private static DraftsmanOffice running(int count) {
        DraftsmanOffice office = Given.handedSheet();
        for (int i = 0; i < 8; i++) {
            office.pack(0, 1, 5);
        }
        for (int i = 0; i < count; i++) {
            office.start(i);
        }
        return office;
    }

    private static void referNoSuchSheet() {
        bounds.sentence("promise 7: IndexOutOfBoundsException if there is no such SHEET");
        bounds.noSuchSheet("refer from", (office, from) -> office.refer(from, 0, 0));
        bounds.noSuchSheet("refer to", (office, to) -> office.refer(Given.NEW, to, 0));
        bounds.noSuchSheet("refer from and to", (office, sheet) -> office.refer(sheet, sheet, 0));
        bounds.taken("from the first to the last", 0, () -> Given.sheets(10), office -> office.refer(0, 9, 0));
        bounds.taken("from the last to the first", 0, () -> Given.sheets(10), office -> office.refer(9, 0, 0));
    }

    private static void referArguments() {
        bounds.sentence("promise 7: IllegalArgumentException if from is to, or detail is not 0 to 7");
        bounds.noArgument("from is to", Given::busy, office -> office.refer(Given.NEW, Given.NEW, 0));
        bounds.noArgument("from is to, the first", () -> Given.sheets(1), office -> office.refer(0, 0, 0));
        bounds.noArguments("detail", new int[] {-1, 8, 32, MIN, MAX}, Given::busy,
                (office, detail) -> office.refer(Given.NEW, 0, detail));
        for (int i = 0; i <= 7; i++) {
            int detail = i;
            bounds.taken("detail " + detail, 3, Given::busy, office -> office.refer(Given.NEW, 0, detail));
        }
    }

    private static void referTwentieth() {
        bounds.sentence("promise 7: IllegalStateException if there are 20");
        bounds.taken("the 20th", 19, () -> {
            DraftsmanOffice office = Given.sheets(2);
            references(office, 19);
            return office;
        }, office -> office.refer(0, 1, 0));
        bounds.noState("the 21st", SheetsBoundsTest::twentyBroken, office -> office.refer(0, 1, 0));
        bounds.noState("the 21st, all full", Given::full, office -> office.refer(Given.NEW, 0, 0));
        bounds.noState("the 21st, from a sheet without any", SheetsBoundsTest::twentyBroken,
                office -> office.refer(1, 0, 0));
    }

    private static void referDraft() {
        bounds.sentence("promise 7: IllegalStateException if the last REVISION of the first SHEET is no DRAFT");
        bounds.taken("a draft beside an issued one", 3, Given::busy,
                office -> office.refer(Given.DRAFT_BESIDE_ISSUED, 1, 0));
        bounds.noState("a new one that is checked", Given::busy,
                office -> office.refer(Given.CHECKED_WITH_BROKEN, 0, 0));
        bounds.noState("a checked one beside an issued one", Given::busy,
                office -> office.refer(Given.CHECKED_BESIDE_ISSUED, 0, 0));
        bounds.noState("an issued one", Given::busy, office -> office.refer(Given.ISSUED, 0, 0));
        bounds.taken("to a checked one", 3, Given::busy,
                office -> office.refer(Given.NEW, Given.CHECKED_WITH_BROKEN, 0));
        bounds.taken("to an issued one", 3, Given::busy, office -> office.refer(Given.NEW, Given.ISSUED, 0));
    }

    private static void referBoth() {
        bounds.sentence("promise 7: several exceptions apply");
        bounds.noSuch("no sheet, which is the other, no detail", Given::busy, office -> office.refer(5, 5, 8));
        bounds.noSuch("no sheet to, no detail, 20 there", Given::full, office -> office.refer(Given.NEW, 10, 8));
        bounds.noSuch("no sheet from, no detail, 20 there", Given::full, office -> office.refer(-1, 0, -1));
        bounds.noSuch("no sheet to, from an issued one", Given::busy, office -> office.refer(Given.ISSUED, 5, 0));
        bounds.noArgument("from is to, 20 there", Given::full, office -> office.refer(Given.NEW, Given.NEW, 0));
        bounds.noArgument("from is to, an issued one", Given::busy,
                office -> office.refer(Given.ISSUED, Given.ISSUED, 0));
        bounds.noArgument("no detail, 20 there, an issued one", Given::full,
                office -> office.refer(Given.ISSUED, 0, 8));
        bounds.noArgument("from is to, no detail, an issued one", Given::busy,
                office -> office.refer(Given.ISSUED, Given.ISSUED, 8));
        bounds.noState("20 there, an issued one", Given::full, office -> office.refer(Given.ISSUED, 0, 0));
    }

    private static void ofSheetNoSuchSheet() {
        bounds.sentence("promise 8: IndexOutOfBoundsException if there is no such SHEET");
        bounds.noSuchSheet("ofSheet", (office, sheet) -> office.ofSheet(sheet, 0));
        bounds.noSuchSheet("ofSheet of no what,", (office, sheet) -> office.ofSheet(sheet, 10));
        bounds.taken("of the last", 1, Given::full, office -> office.ofSheet(9, 0));
    }

    private static void ofSheetWhat() {
        bounds.sentence("promise 8: IllegalArgumentException if what is not 0 to 9");
        bounds.noArguments("what", new int[] {-1, 10, MIN, MAX}, Given::busy,
                (office, what) -> office.ofSheet(0, what));
        long[] answers = {0, 2, 0, 0, 100, 15, 0, 0, 0, 1};
        for (int i = 0; i <= 9; i++) {
            int what = i;
            bounds.taken("what " + what, answers[what], Given::busy, office -> office.ofSheet(0, what));
        }
    }

    private static void ofSheetLeast() {
        bounds.sentence("promise 8: 2 the ISSUED one (NONE), 4 (0 without), 5 (0), and none of the others");
        long[] answers = {3, 1, -1, 0, 0, 0, 0, 0, 0, 0};
        for (int i = 0; i <= 9; i++) {
            int what = i;
            bounds.taken("what " + what + " of a draft", answers[what], SheetsBoundsTest::drawnDraft,
                    office -> office.ofSheet(0, what));
            long checked = what == 3 ? 1 : answers[what];
            bounds.taken("what " + what + " of a checked one", checked, SheetsBoundsTest::drawnDraft, office -> {
                office.check(0);
                return office.ofSheet(0, what);
            });
        }
    }

    private static DraftsmanOffice drawnDraft() {
        DraftsmanOffice office = new DraftsmanOffice();
        office.sheet(3);
        office.draw(0, 0, 0, 19, 19, 255);
        return office;
    }

    private static void ofSheetMost() {
        bounds.sentence("promise 8: the most of each");
        bounds.taken("6 revisions", 6, SheetsBoundsTest::sixRevisions, office -> office.ofSheet(0, 1));
        bounds.taken("the sixth is issued", 5, SheetsBoundsTest::sixRevisions, office -> office.ofSheet(0, 2));
        bounds.taken("20 broken from it", 20, SheetsBoundsTest::twentyBroken, office -> office.ofSheet(0, 7));
        bounds.taken("none from the other", 0, SheetsBoundsTest::twentyBroken, office -> office.ofSheet(1, 7));
        bounds.taken("20 broken to it", 20, SheetsBoundsTest::twentyBroken, office -> office.ofSheet(1, 8));
        bounds.taken("none to the other", 0, SheetsBoundsTest::twentyBroken, office -> office.ofSheet(0, 8));
        DraftsmanOffice marked = running(8);
        Given.days(marked, 5);
        bounds.due("8 marks", 8, marked.ofSheet(0, 6));
        DraftsmanOffice office = new DraftsmanOffice();
        for (int i = 0; i < 10; i++) {
            Given.addIssued(office, i == 9 ? 2 : 3, 0, 0, 19, 19, 255);
        }
        bounds.due("all fields", 400, office.ofSheet(9, 4));
        bounds.due("all details", 255, office.ofSheet(9, 5));
        bounds.due("it clashes with all others", 9, office.ofSheet(9, 9));
        bounds.due("another one with it alone", 1, office.ofSheet(0, 9));
    }

    private static void statusNoSuch() {
        bounds.sentence("promise 9: IndexOutOfBoundsException if there is no such SHEET, or REVISION");
        bounds.noSuchSheet("status", (office, sheet) -> office.status(sheet, 0));
        bounds.noSuchSheet("status of no revision", (office, sheet) -> office.status(sheet, 6));
        for (int revision : new int[] {-1, 2, 6, MIN, MAX}) {
            bounds.noSuch("status of revision " + revision, Given::busy, office -> office.status(0, revision));
        }
        bounds.noSuch("the second of one", Given::busy, office -> office.status(Given.NEW, 1));
        bounds.noSuch("the seventh of six", Given::full, office -> office.status(9, 6));
        bounds.taken("the sixth of six", 2, Given::full, office -> office.status(9, 5));
        bounds.taken("the fifth of six", 3, Given::full, office -> office.status(9, 4));
        bounds.taken("the first of six", 3, Given::full, office -> office.status(9, 0));
        bounds.taken("the first of one", 0, Given::busy, office -> office.status(Given.NEW, 0));
    }

    private static void holdsNoSuch() {
        bounds.sentence("promise 10: IndexOutOfBoundsException if there is no such REFERENCE");
        bounds.noSuchReference("holds", (office, reference) -> Check.number(office.holds(reference)));
        bounds.taken("the first", 1, Given::full, office -> Check.number(office.holds(0)));
        bounds.taken("the last", 1, Given::full, office -> Check.number(office.holds(19)));
        bounds.taken("a broken one", 0, Given::full, office -> Check.number(office.holds(1)));
    }
}
