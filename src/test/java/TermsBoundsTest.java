/** The bounds that the section "Terms" names: each method stands for one sentence. */
public final class TermsBoundsTest {
    private static final Bounds bounds = new Bounds("TermsBoundsTest");

    public static void main(String[] args) {
        calls();
        dayIsZero();
        sets();
        regionWithThese();
        newSheet();
        lastAlone();
        oneIssued();
        holds();
        issuedAsItIsSent();
        eachThatIsLater();
        openAtFirst();
        closedWithoutChange();
        closedAsNextIssued();
        cloudTillClosed();
        regionBeside();
        differentTrades();
        notExcused();
        fieldInCommon();
        cloudOnBoth();
        waitingAtFirst();
        marks();
        marksAreZeroAgain();
        bounds.end();
    }

    private static void calls() {
        bounds.sentence("an object is used for at most 512 calls");
        DraftsmanOffice days = new DraftsmanOffice();
        for (int i = 0; i < 511; i++) {
            bounds.due("day " + i, 0, days.day());
        }
        bounds.due("the 512th call", 511, days.many(12));
        DraftsmanOffice refusals = new DraftsmanOffice();
        for (int i = 0; i < 511; i++) {
            Check.outcome(() -> refusals.sheet(4));
        }
        bounds.due("the 512th call, after 511 that are refused", 0, refusals.sheet(3));
    }

    private static void dayIsZero() {
        bounds.sentence("the DAY is 0 at first");
        bounds.taken("a new office", 0, DraftsmanOffice::new, office -> office.many(12));
        bounds.taken("after work without a day", 0, () -> Given.handedSheets(3), office -> office.many(12));
    }

    private static void sets() {
        bounds.sentence("sets are told as numbers: the sum of 2^k for each k in them");
        for (int k = 0; k < 10; k++) {
            DraftsmanOffice office = Given.issuedSheets(10);
            office.pack(0, 1 << k, 1);
            office.send(1, 1 << k);
            office.receive(0, 0);
            bounds.due("it needs the sheet " + k, 0, office.start(0) - 1L);
            for (int sheet = 0; sheet < 10; sheet++) {
                bounds.due("the crew has " + sheet, sheet == k ? 0 : Given.NONE, office.has(0, sheet));
            }
        }
        for (int k = 0; k < 8; k++) {
            DraftsmanOffice office = Given.sheets(2);
            Given.addIssued(office, 0, 0, 0, 0, 0, 1 << k);
            for (int detail = 0; detail < 8; detail++) {
                boolean holds = office.holds(office.refer(0, 2, detail));
                bounds.due("the detail " + detail + " of " + k, Check.number(detail == k), Check.number(holds));
            }
        }
    }

    private static void regionWithThese() {
        bounds.sentence("1: from a column to a column and from a row to a row, with these");
        int[][] inside = {{3, 7}, {5, 7}, {3, 8}, {5, 8}, {4, 7}};
        int[][] outside = {{2, 7}, {6, 7}, {3, 6}, {5, 9}, {2, 6}, {6, 9}, {19, 19}, {0, 0}};
        for (int[] field : inside) {
            regionAt(field[0], field[1], 1);
        }
        for (int[] field : outside) {
            regionAt(field[0], field[1], 0);
        }
    }

    /** The region 3, 7 to 5, 8 of a query, of a sheet's revision, and of a package. */
    private static void regionAt(int x, int y, int over) {
        String at = x + ", " + y;
        bounds.taken("a query's at " + at, over, () -> Given.issuedSheets(1), office -> {
            office.query(0, 3, 7, 5, 8);
            return office.clouds(0, x, y);
        });
        bounds.taken("a revision's at " + at, over, DraftsmanOffice::new, office -> {
            Given.addIssued(office, 0, 3, 7, 5, 8, 0);
            Given.addIssued(office, 1, 0, 0, 19, 19, 0);
            return office.clouds(1, x, y);
        });
        bounds.taken("a package's at " + at, over, Given::handedSheet, office -> {
            office.pack(0, 1, 1);
            office.place(0, 3, 7, 5, 8);
            office.query(0, x, y, x, y);
            return office.ofPack(0, 5) == 4 ? 1 : 0;
        });
    }

    private static void newSheet() {
        bounds.sentence("1: a new SHEET has the REVISION 0, a DRAFT, with the FIELD of column 0 and row 0, no DETAILS");
        bounds.taken("its revisions", 1, () -> Given.sheets(10), office -> office.ofSheet(9, 1));
        bounds.taken("its status", 0, () -> Given.sheets(10), office -> office.status(9, 0));
        bounds.taken("none is issued", Given.NONE, () -> Given.sheets(10), office -> office.ofSheet(9, 2));
        bounds.taken("its fields", 1, () -> Given.issuedSheets(10), office -> office.ofSheet(9, 4));
        bounds.taken("its details", 0, () -> Given.issuedSheets(10), office -> office.ofSheet(9, 5));
        for (int[] field : new int[][] {{0, 0, 1}, {1, 0, 0}, {0, 1, 0}, {1, 1, 0}, {19, 19, 0}}) {
            bounds.taken("at " + field[0] + ", " + field[1], field[2], () -> Given.issuedSheets(1), office -> {
                Given.addIssued(office, 1, 0, 0, 19, 19, 0);
                return office.clouds(1, field[0], field[1]);
            });
        }
    }

    private static void lastAlone() {
        bounds.sentence("1: the last REVISION alone can be a DRAFT, or CHECKED");
        DraftsmanOffice office = Given.sheets(1);
        for (int last = 0; last < 6; last++) {
            statuses(office, last, 0);
            office.check(0);
            statuses(office, last, 1);
            office.issue(0);
            statuses(office, last, 2);
            if (last < 5) {
                office.revise(0);
            }
        }
    }

    /** The last revision has this status; of the others, the one before it is issued till the last one is. */
    private static void statuses(DraftsmanOffice office, int last, int status) {
        bounds.due("the last one of " + last, status, office.status(0, last));
        for (int revision = 0; revision < last; revision++) {
            boolean isIssued = status != 2 && revision == last - 1;
            bounds.due("revision " + revision + " of " + last, isIssued ? 2 : 3, office.status(0, revision));
        }
    }

    private static void oneIssued() {
        bounds.sentence("1: at most one is ISSUED");
        DraftsmanOffice office = Given.sheets(1);
        bounds.due("none", 0, issuedOnes(office));
        Given.issue(office, 0);
        for (int revision = 1; revision < 6; revision++) {
            bounds.due("one of " + revision, 1, issuedOnes(office));
            office.revise(0);
            bounds.due("one beside a draft, " + revision, 1, issuedOnes(office));
            office.check(0);
            bounds.due("one beside a checked one, " + revision, 1, issuedOnes(office));
            office.issue(0);
        }
        bounds.due("one of six", 1, issuedOnes(office));
    }

    private static int issuedOnes(DraftsmanOffice office) {
        int issued = 0;
        int revisions = office.ofSheet(0, 1);
        for (int revision = 0; revision < revisions; revision++) {
            issued += office.status(0, revision) == 2 ? 1 : 0;
        }
        return issued;
    }

    private static void holds() {
        bounds.sentence("2: it HOLDS, if that has an ISSUED REVISION that has the DETAIL; otherwise it is BROKEN");
        for (int detail = 0; detail < 8; detail++) {
            DraftsmanOffice office = Given.sheets(2);
            office.refer(0, 1, detail);
            office.draw(1, 0, 0, 0, 0, 255);
            bounds.due("no issued revision, " + detail, 0, Check.number(office.holds(0)));
            office.check(1);
            bounds.due("a checked one has it, " + detail, 0, Check.number(office.holds(0)));
            office.issue(1);
            bounds.due("the issued one has it, " + detail, 1, Check.number(office.holds(0)));
            office.revise(1);
            office.draw(1, 0, 0, 0, 0, 255 & ~(1 << detail));
            bounds.due("a draft has it not, " + detail, 1, Check.number(office.holds(0)));
            Given.issue(office, 1);
            bounds.due("the superseded one has it, " + detail, 0, Check.number(office.holds(0)));
            office.revise(1);
            office.draw(1, 0, 0, 0, 0, 1 << detail);
            bounds.due("a draft has it, " + detail, 0, Check.number(office.holds(0)));
            Given.issue(office, 1);
            bounds.due("the issued one has it alone, " + detail, 1, Check.number(office.holds(0)));
        }
    }

    private static void issuedAsItIsSent() {
        bounds.sentence("3: the REVISIONS of these that are ISSUED as it is sent");
        DraftsmanOffice office = Given.issuedSheets(1);
        for (int revision = 0; revision < 5; revision++) {
            office.send(1, 1);
            office.revise(0);
            office.send(2, 1);
            office.check(0);
            office.send(4, 1);
            office.issue(0);
        }
        for (int revision = 0; revision < 5; revision++) {
            office.receive(3 * revision, 0);
            bounds.due("sent before it was revised", revision, office.has(0, 0));
            office.receive(3 * revision + 1, 1);
            bounds.due("sent beside a draft", revision, office.has(1, 0));
            office.receive(3 * revision + 2, 2);
            bounds.due("sent beside a checked one", revision, office.has(2, 0));
        }
    }

    private static void eachThatIsLater() {
        bounds.sentence("3: it HAS each one that is later than that which it HAS (none at first), instead of that");
        DraftsmanOffice office = Given.issuedSheets(2);
        office.send(3, 1);
        office.send(1, 3);
        Given.reissue(office, 0);
        office.send(3, 1);
        Given.reissue(office, 0);
        office.send(1, 3);
        bounds.due("none at first", Given.NONE, office.has(0, 0));
        bounds.due("the first revision", 1, office.receive(0, 0));
        bounds.due("it has 0", 0, office.has(0, 0));
        bounds.due("the same one, and one of another sheet", 1, office.receive(1, 0));
        bounds.due("it has 0 still", 0, office.has(0, 0));
        bounds.due("it has the other", 0, office.has(0, 1));
        bounds.due("a later one, one that it has", 1, office.receive(3, 0));
        bounds.due("it has 2", 2, office.has(0, 0));
        bounds.due("an earlier one", 0, office.receive(2, 0));
        bounds.due("it has 2 still", 2, office.has(0, 0));
        bounds.due("another crew has none", Given.NONE, office.has(1, 0));
        bounds.due("another crew, the later one first", 1, office.receive(2, 1));
        bounds.due("another crew, the earlier one then", 0, office.receive(0, 1));
        bounds.due("another crew has 1", 1, office.has(1, 0));
    }

    private static void openAtFirst() {
        bounds.sentence("4: OPEN at first");
        DraftsmanOffice office = Given.issuedSheets(1);
        for (int query = 0; query < 20; query++) {
            office.query(0, 0, 0, 0, 0);
            bounds.due("the query " + query, 0, office.ofQuery(query));
        }
        Given.reissue(office, 0);
        bounds.due("no revision closes an open one", 0, office.ofQuery(0));
        bounds.due("none of them", 20, office.many(5));
    }

    private static void closedWithoutChange() {
        bounds.sentence("4: CLOSED as it is answered without a change");
        DraftsmanOffice office = Given.issuedSheets(1);
        office.query(0, 0, 0, 0, 0);
        office.query(0, 0, 0, 0, 0);
        bounds.due("closed", 2, office.answer(0, false));
        bounds.due("it is closed", 2, office.ofQuery(0));
        bounds.due("its cloud is gone", 1, office.clouds(0, 0, 0));
        bounds.due("the other is open", 0, office.ofQuery(1));
    }

    private static void closedAsNextIssued() {
        bounds.sentence("4: PROMISED, and CLOSED as next a REVISION of that SHEET is ISSUED, whenever that was begun");
        for (String steps : new String[] {"RCQA", "RQCA", "RQAC", "QRCA", "QRAC", "QARC"}) {
            DraftsmanOffice office = Given.issuedSheets(2);
            takeSteps(office, steps);
            bounds.due(steps + ", promised", 1, office.ofQuery(0));
            Given.reissue(office, 1);
            bounds.due(steps + ", another sheet is issued", 1, office.ofQuery(0));
            office.issue(0);
            bounds.due(steps + ", its sheet is issued", 2, office.ofQuery(0));
        }
        DraftsmanOffice office = Given.issuedSheets(1);
        office.query(0, 0, 0, 0, 0);
        Given.reissue(office, 0);
        office.answer(0, true);
        bounds.due("a revision that was issued before the answer", 1, office.ofQuery(0));
        Given.reissue(office, 0);
        bounds.due("the next one", 2, office.ofQuery(0));
    }

    /** The sheet 0 is revised, checked, asked about, and that is answered with a change. */
    private static void takeSteps(DraftsmanOffice office, String steps) {
        for (char step : steps.toCharArray()) {
            switch (step) {
                case 'R' -> office.revise(0);
                case 'C' -> office.check(0);
                case 'Q' -> office.query(0, 0, 0, 0, 0);
                default -> office.answer(0, true);
            }
        }
    }

    private static void cloudTillClosed() {
        bounds.sentence("4: a CLOUD over that REGION, till it is CLOSED");
        DraftsmanOffice office = Given.issuedSheets(2);
        office.query(0, 3, 3, 4, 4);
        bounds.due("open", 1, office.clouds(0, 4, 4));
        bounds.due("not on another sheet", 0, office.clouds(1, 4, 4));
        office.answer(0, true);
        bounds.due("promised", 1, office.clouds(0, 4, 4));
        office.revise(0);
        office.check(0);
        bounds.due("promised, its sheet checked", 1, office.clouds(0, 4, 4));
        office.issue(0);
        bounds.due("closed", 0, office.clouds(0, 4, 4));
        office.query(0, 3, 3, 4, 4);
        Given.reissue(office, 0);
        bounds.due("open over the next revision", 1, office.clouds(0, 4, 4));
    }

    private static void regionBeside() {
        bounds.sentence("4: a REGION can be beside that of the REVISION");
        DraftsmanOffice office = Given.handedSheet();
        Given.startNew(office, 0, 1, 9);
        bounds.due("a query beside the field of the sheet", 0, office.query(0, 19, 19, 19, 19));
        bounds.due("its cloud", 1, office.clouds(0, 19, 19));
        bounds.due("none over the sheet's field", 0, office.clouds(0, 0, 0));
        bounds.due("it stops the work", 2, office.ofPack(0, 2));
    }

    private static void differentTrades() {
        bounds.sentence("4: two SHEETS of different TRADES CLASH");
        for (int i = 0; i <= 3; i++) {
            for (int j = 0; j <= 3; j++) {
                int one = i;
                int other = j;
                int fields = one == other ? 0 : 400;
                bounds.taken("trades " + one + " and " + other, fields, DraftsmanOffice::new, office -> {
                    Given.addIssued(office, one, 0, 0, 19, 19, 0);
                    Given.addIssued(office, other, 0, 0, 19, 19, 0);
                    return office.clash(0, 1);
                });
            }
        }
    }

    private static void notExcused() {
        bounds.sentence("4: if they are not EXCUSED");
        DraftsmanOffice office = new DraftsmanOffice();
        for (int i = 0; i < 10; i++) {
            Given.addIssued(office, i % 2, 0, 0, 0, 0, 0);
        }
        office.excuse(0, 9);
        for (int one = 0; one < 10; one++) {
            for (int other = one + 1; other < 10; other++) {
                boolean isExcused = one == 0 && other == 9;
                int fields = one % 2 == other % 2 || isExcused ? 0 : 1;
                bounds.due("clash of " + one + " and " + other, fields, office.clash(one, other));
                bounds.due("clash of " + other + " and " + one, fields, office.clash(other, one));
            }
        }
    }

    private static void fieldInCommon() {
        bounds.sentence("4: and their ISSUED REVISIONS have a FIELD in common");
        int[][] regions = {
            {9, 9, 9, 9, 1}, {5, 5, 9, 9, 25}, {9, 9, 19, 19, 1}, {0, 0, 5, 5, 1}, {9, 5, 19, 5, 1}, {5, 9, 5, 19, 1},
            {10, 5, 19, 9, 0}, {5, 10, 9, 19, 0}, {0, 5, 4, 9, 0}, {5, 0, 9, 4, 0},
            {10, 10, 19, 19, 0}, {0, 0, 4, 4, 0}, {6, 7, 8, 8, 6}, {0, 0, 19, 19, 25}, {7, 0, 7, 19, 5},
            {0, 7, 19, 7, 5},
        };
        for (int[] at : regions) {
            bounds.taken("5, 5 to 9, 9 and " + Bounds.written(at), at[4], DraftsmanOffice::new, office -> {
                Given.addIssued(office, 0, 5, 5, 9, 9, 0);
                Given.addIssued(office, 1, at[0], at[1], at[2], at[3], 0);
                return office.clash(0, 1);
            });
            bounds.taken("it clashes with, " + Bounds.written(at), at[4] > 0 ? 1 : 0, DraftsmanOffice::new, office -> {
                Given.addIssued(office, 0, 5, 5, 9, 9, 0);
                Given.addIssued(office, 1, at[0], at[1], at[2], at[3], 0);
                return office.ofSheet(1, 9);
            });
        }
    }

    private static void cloudOnBoth() {
        bounds.sentence("4: a CLOUD over all such FIELDS, on both");
        for (int sheet = 0; sheet <= 1; sheet++) {
            DraftsmanOffice office = new DraftsmanOffice();
            Given.addIssued(office, 0, 3, 2, 9, 19, 0);
            Given.addIssued(office, 1, 5, 0, 12, 6, 0);
            for (int x = 0; x <= 19; x++) {
                for (int y = 0; y <= 19; y++) {
                    boolean isCommon = x >= 5 && x <= 9 && y >= 2 && y <= 6;
                    bounds.due("on " + sheet + " at " + x + ", " + y, isCommon ? 1 : 0, office.clouds(sheet, x, y));
                }
            }
        }
    }

    private static void waitingAtFirst() {
        bounds.sentence("5: WAITING (0, at first), RUNNING (1), STOPPED (2), or DONE (3)");
        for (int i = 0; i < 8; i++) {
            int pack = i;
            bounds.taken("at first, " + pack, 0, Given::handedSheet, office -> {
                for (int j = 0; j < 8; j++) {
                    office.pack(0, 1, 1);
                }
                return office.ofPack(pack, 2);
            });
        }
        bounds.taken("running", 1, Given::busy, office -> office.ofPack(Given.RUNNING, 2));
        bounds.taken("stopped", 2, Given::busy, office -> office.ofPack(Given.STOPPED, 2));
        bounds.taken("done", 3, Given::busy, office -> office.ofPack(Given.DONE, 2));
    }

    private static void marks() {
        bounds.sentence("5: as a PACKAGE is DONE, each SHEET that it needs gets one MARK more");
        DraftsmanOffice office = Given.handedSheets(10);
        Given.startNew(office, 0, 513, 2);
        Given.startNew(office, 0, 512, 2);
        Given.startNew(office, 0, 2, 3);
        office.day();
        bounds.due("none before it is done", 0, office.ofSheet(9, 6));
        office.day();
        bounds.due("of one package", 1, office.ofSheet(0, 6));
        bounds.due("of two packages at once", 2, office.ofSheet(9, 6));
        for (int sheet = 1; sheet < 9; sheet++) {
            bounds.due("one that they do not need", 0, office.ofSheet(sheet, 6));
        }
        office.day();
        bounds.due("of the third", 1, office.ofSheet(1, 6));
        bounds.due("no more of the first", 1, office.ofSheet(0, 6));
    }

    private static void marksAreZeroAgain() {
        bounds.sentence("5: as a new REVISION of a SHEET is begun, its MARKS are 0 again");
        DraftsmanOffice office = Given.handedSheets(2);
        Given.marks(office, 0, 3, 2);
        bounds.due("two marks", 2, office.ofSheet(0, 6));
        office.revise(0);
        bounds.due("begun", 0, office.ofSheet(0, 6));
        bounds.due("the other sheet", 2, office.ofSheet(1, 6));
        Given.marks(office, 0, 3, 1);
        bounds.due("marked by the issued one beside a draft", 1, office.ofSheet(0, 6));
        office.draw(0, 0, 0, 0, 0, 0);
        office.check(0);
        bounds.due("drawn and checked", 1, office.ofSheet(0, 6));
        office.issue(0);
        bounds.due("issued", 1, office.ofSheet(0, 6));
        Check.outcome(() -> office.check(0));
        bounds.due("after a refused call", 1, office.ofSheet(0, 6));
        office.revise(0);
        bounds.due("begun once more", 0, office.ofSheet(0, 6));
    }
}
