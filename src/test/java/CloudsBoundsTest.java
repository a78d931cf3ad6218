/** The bounds that promises 15 to 20 name: each method stands for one sentence. */
public final class CloudsBoundsTest {
    private static final Bounds bounds = new Bounds("CloudsBoundsTest");
    private static final int MIN = Bounds.MIN;
    private static final int MAX = Bounds.MAX;

    public static void main(String[] args) {
        queryNoSuchSheet();
        queryRegion();
        queryTwentieth();
        queryNotIssued();
        queryBoth();
        answerNoSuchQuery();
        answerOpen();
        ofQueryNoSuchQuery();
        ofQueryStates();
        clashNoSuchSheet();
        clashTheSame();
        clashFields();
        excuseNoSuchSheet();
        excuseTheSame();
        excuseTurns();
        cloudsNoSuchSheet();
        cloudsField();
        cloudsBoth();
        cloudsCounts();
        bounds.end();
    }

    private static void queryNoSuchSheet() {
        bounds.sentence("promise 15: IndexOutOfBoundsException if there is no such SHEET");
        bounds.noSuchSheet("query", (office, sheet) -> office.query(sheet, 0, 0, 0, 0));
        bounds.taken("of the first", 0, () -> Given.issuedSheets(10), office -> office.query(0, 0, 0, 0, 0));
        bounds.taken("of the last", 0, () -> Given.issuedSheets(10), office -> office.query(9, 0, 0, 0, 0));
    }

    private static void queryRegion() {
        bounds.sentence("promise 15: IllegalArgumentException if the REGION is none");
        Bounds.RegionCalling query = (office, x, y, toX, toY) -> office.query(Given.ISSUED, x, y, toX, toY);
        bounds.secondBelowFirst("query", Given::busy, query);
        bounds.outside("query", Given::busy, query);
        for (int[] at : Bounds.REGIONS) {
            DraftsmanOffice office = Given.issuedSheets(1);
            bounds.due("query " + Bounds.written(at), 0, office.query(0, at[0], at[1], at[2], at[3]));
            bounds.due("fields under its cloud " + Bounds.written(at), at[4], fieldsUnderClouds(office, 0));
        }
    }

    /** Asks 400 fields. */
    private static int fieldsUnderClouds(DraftsmanOffice office, int sheet) {
        int under = 0;
        for (int x = 0; x <= 19; x++) {
            for (int y = 0; y <= 19; y++) {
                under += office.clouds(sheet, x, y) > 0 ? 1 : 0;
            }
        }
        return under;
    }

    private static void queryTwentieth() {
        bounds.sentence("promise 15: IllegalStateException if there are 20");
        bounds.taken("the 20th", 19, () -> queries(19), office -> office.query(0, 0, 0, 0, 0));
        bounds.noState("the 21st", () -> queries(20), office -> office.query(0, 0, 0, 0, 0));
        bounds.noState("the 21st, all closed", CloudsBoundsTest::twentyClosed, office -> office.query(0, 0, 0, 0, 0));
        bounds.noState("the 21st, all full", Given::full, office -> office.query(Given.ISSUED, 0, 0, 0, 0));
    }

    private static DraftsmanOffice queries(int count) {
        DraftsmanOffice office = Given.issuedSheets(1);
        for (int i = 0; i < count; i++) {
            office.query(0, 0, 0, 0, 0);
        }
        return office;
    }

    private static DraftsmanOffice twentyClosed() {
        DraftsmanOffice office = queries(20);
        for (int i = 0; i < 20; i++) {
            office.answer(i, false);
        }
        return office;
    }

    private static void queryNotIssued() {
        bounds.sentence("promise 15: IllegalStateException if the SHEET has no ISSUED REVISION");
        bounds.noState("a draft", Given::busy, office -> office.query(Given.NEW, 0, 0, 0, 0));
        bounds.noState("a checked one", Given::busy, office -> office.query(Given.CHECKED_WITH_BROKEN, 0, 0, 0, 0));
        bounds.taken("an issued one", 3, Given::busy, office -> office.query(Given.ISSUED, 0, 0, 0, 0));
        bounds.taken("a draft beside it", 3, Given::busy,
                office -> office.query(Given.DRAFT_BESIDE_ISSUED, 0, 0, 0, 0));
        bounds.taken("a checked one beside it", 3, Given::busy,
                office -> office.query(Given.CHECKED_BESIDE_ISSUED, 0, 0, 0, 0));
    }

    private static void queryBoth() {
        bounds.sentence("promise 15: several exceptions apply");
        bounds.noSuch("no sheet, no region", Given::busy, office -> office.query(5, 1, 0, 0, 0));
        bounds.noSuch("no sheet, 20 there", Given::full, office -> office.query(10, 0, 0, 0, 0));
        bounds.noSuch("no sheet, no region, 20 there", Given::full, office -> office.query(-1, 0, 0, 20, 0));
        bounds.noArgument("no region, not issued", Given::busy, office -> office.query(Given.NEW, 0, 1, 0, 0));
        bounds.noArgument("no region, 20 there", Given::full, office -> office.query(Given.ISSUED, 0, 0, 0, 20));
        bounds.noArgument("no region, not issued, 20 there", Given::full,
                office -> office.query(Given.NEW, -1, 0, 0, 0));
        bounds.noState("not issued, 20 there", Given::full, office -> office.query(Given.NEW, 0, 0, 0, 0));
    }

    private static void answerNoSuchQuery() {
        bounds.sentence("promise 16: IndexOutOfBoundsException if there is no such QUERY");
        bounds.noSuchQuery("answer with a change", (office, query) -> office.answer(query, true));
        bounds.noSuchQuery("answer without a change", (office, query) -> office.answer(query, false));
        bounds.taken("the first", 1, () -> queries(20), office -> office.answer(0, true));
        bounds.taken("the last", 2, () -> queries(20), office -> office.answer(19, false));
    }

    private static void answerOpen() {
        bounds.sentence("promise 16: IllegalStateException if it is not OPEN (0)");
        bounds.taken("an open one, with a change", 1, Given::busy, office -> office.answer(Given.OPEN, true));
        bounds.taken("an open one, without", 2, Given::busy, office -> office.answer(Given.OPEN, false));
        bounds.noState("a promised one, with a change", Given::busy, office -> office.answer(Given.PROMISED, true));
        bounds.noState("a promised one, without", Given::busy, office -> office.answer(Given.PROMISED, false));
        bounds.noState("a closed one, with a change", Given::busy, office -> office.answer(Given.CLOSED, true));
        bounds.noState("a closed one, without", Given::busy, office -> office.answer(Given.CLOSED, false));
        bounds.noState("one closed by a revision", CloudsBoundsTest::closedByRevision,
                office -> office.answer(0, true));
        bounds.taken("an open one after a revision", 2, CloudsBoundsTest::closedByRevision,
                office -> office.answer(1, false));
    }

    private static DraftsmanOffice closedByRevision() {
        DraftsmanOffice office = queries(2);
        office.answer(0, true);
        Given.reissue(office, 0);
        return office;
    }

    private static void ofQueryNoSuchQuery() {
        bounds.sentence("promise 17: IndexOutOfBoundsException if there is no such QUERY");
        bounds.noSuchQuery("ofQuery", DraftsmanOffice::ofQuery);
        bounds.taken("the first", 0, () -> queries(20), office -> office.ofQuery(0));
        bounds.taken("the last", 0, () -> queries(20), office -> office.ofQuery(19));
    }

    private static void ofQueryStates() {
        bounds.sentence("promise 17: 0 OPEN, 1 PROMISED, 2 CLOSED");
        bounds.taken("an open one", 0, Given::busy, office -> office.ofQuery(Given.OPEN));
        bounds.taken("a promised one", 1, Given::busy, office -> office.ofQuery(Given.PROMISED));
        bounds.taken("a closed one", 2, Given::busy, office -> office.ofQuery(Given.CLOSED));
        bounds.taken("one closed by a revision", 2, CloudsBoundsTest::closedByRevision, office -> office.ofQuery(0));
        bounds.taken("an open one after a revision", 0, CloudsBoundsTest::closedByRevision,
                office -> office.ofQuery(1));
    }

    private static void clashNoSuchSheet() {
        bounds.sentence("promise 18: IndexOutOfBoundsException if there is no such SHEET");
        bounds.noSuchSheet("clash, the one", (office, one) -> office.clash(one, 0));
        bounds.noSuchSheet("clash, the other", (office, other) -> office.clash(0, other));
        bounds.noSuchSheet("clash, both and the same", (office, sheet) -> office.clash(sheet, sheet));
        bounds.taken("of the first and the last", 1, Given::full, office -> office.clash(0, 9));
        bounds.taken("of the last and the first", 1, Given::full, office -> office.clash(9, 0));
    }

    private static void clashTheSame() {
        bounds.sentence("promise 18: IllegalArgumentException if they are the same");
        for (int i = 0; i < Given.BUSY_SHEETS; i++) {
            int sheet = i;
            bounds.noArgument("clash of " + sheet + " twice", Given::busy, office -> office.clash(sheet, sheet));
        }
        bounds.noArgument("of the only one", () -> Given.issuedSheets(1), office -> office.clash(0, 0));
        bounds.noArgument("of the last one", Given::full, office -> office.clash(9, 9));
    }

    private static void clashFields() {
        bounds.sentence("promise 18: on how many FIELDS they CLASH");
        for (int[] at : Bounds.REGIONS) {
            bounds.taken("with a sheet of all fields " + Bounds.written(at), at[4], () -> twoOf(at),
                    office -> office.clash(0, 1));
        }
        DraftsmanOffice office = new DraftsmanOffice();
        for (int trade = 0; trade <= 1; trade++) {
            office.sheet(trade);
            office.draw(trade, 0, 0, 19, 19, 0);
        }
        bounds.due("two drafts", 0, office.clash(0, 1));
        office.check(0);
        bounds.due("a draft and a checked one", 0, office.clash(0, 1));
        office.issue(0);
        bounds.due("an issued one and a draft", 0, office.clash(0, 1));
        office.check(1);
        bounds.due("an issued one and a checked one", 0, office.clash(0, 1));
        office.issue(1);
        bounds.due("two issued ones", 400, office.clash(0, 1));
        office.revise(1);
        office.draw(1, 0, 0, 0, 0, 0);
        bounds.due("the issued one beside a draft", 400, office.clash(1, 0));
    }

    private static DraftsmanOffice twoOf(int[] at) {
        DraftsmanOffice office = new DraftsmanOffice();
        Given.addIssued(office, 0, 0, 0, 19, 19, 0);
        Given.addIssued(office, 3, at[0], at[1], at[2], at[3], 0);
        return office;
    }

    private static void excuseNoSuchSheet() {
        bounds.sentence("promise 19: IndexOutOfBoundsException if there is no such SHEET");
        bounds.noSuchSheet("excuse, the one", (office, one) -> Check.number(office.excuse(one, 0)));
        bounds.noSuchSheet("excuse, the other", (office, other) -> Check.number(office.excuse(0, other)));
        bounds.noSuchSheet("excuse, both and the same", (office, one) -> Check.number(office.excuse(one, one)));
        bounds.taken("the first and the last", 1, Given::full, office -> Check.number(office.excuse(0, 9)));
        bounds.taken("the last and the first", 1, Given::full, office -> Check.number(office.excuse(9, 0)));
    }

    private static void excuseTheSame() {
        bounds.sentence("promise 19: IllegalArgumentException if they are the same");
        for (int i = 0; i < Given.BUSY_SHEETS; i++) {
            int sheet = i;
            bounds.noArgument("excuse of " + sheet + " twice", Given::busy,
                    office -> Check.number(office.excuse(sheet, sheet)));
        }
        bounds.noArgument("of the last one", Given::full, office -> Check.number(office.excuse(9, 9)));
    }

    private static void excuseTurns() {
        bounds.sentence("promise 19: EXCUSES two SHEETS, or, if they are, does not any more");
        for (int i = 0; i < 4; i++) {
            DraftsmanOffice office = twoOf(new int[] {0, 0, 0, 0});
            boolean isExcused = false;
            for (int turn = 0; turn <= i; turn++) {
                isExcused = !isExcused;
                boolean got = turn % 2 == 0 ? office.excuse(0, 1) : office.excuse(1, 0);
                bounds.due("excused by turn " + turn, Check.number(isExcused), Check.number(got));
            }
            bounds.due("clash then", isExcused ? 0 : 1, office.clash(0, 1));
            bounds.due("the other way round", isExcused ? 0 : 1, office.clash(1, 0));
        }
        bounds.taken("of one trade", 1, () -> Given.issuedSheets(2), office -> Check.number(office.excuse(0, 1)));
        bounds.taken("excused as drafts", 0, Given::busy,
                office -> Check.number(office.excuse(Given.CHECKED_BESIDE_ISSUED, Given.NEW)));
    }

    private static void cloudsNoSuchSheet() {
        bounds.sentence("promise 20: IndexOutOfBoundsException if there is no such SHEET");
        bounds.noSuchSheet("clouds", (office, sheet) -> office.clouds(sheet, 0, 0));
        bounds.taken("of the last", 0, () -> Given.issuedSheets(10), office -> office.clouds(9, 0, 0));
    }

    private static void cloudsField() {
        bounds.sentence("promise 20: IllegalArgumentException if x or y is not 0 to 19");
        bounds.noArguments("x", new int[] {-1, 20, 32, 64, MIN, MAX}, Given::busy,
                (office, x) -> office.clouds(0, x, 0));
        bounds.noArguments("y", new int[] {-1, 20, 32, 64, MIN, MAX}, Given::busy,
                (office, y) -> office.clouds(0, 0, y));
        for (int end : new int[] {0, 19}) {
            bounds.taken("x " + end, 1, CloudsBoundsTest::cloudOfAll, office -> office.clouds(0, end, 7));
            bounds.taken("y " + end, 1, CloudsBoundsTest::cloudOfAll, office -> office.clouds(0, 7, end));
        }
    }

    private static DraftsmanOffice cloudOfAll() {
        DraftsmanOffice office = Given.issuedSheets(1);
        office.query(0, 0, 0, 19, 19);
        return office;
    }

    private static void cloudsBoth() {
        bounds.sentence("promise 20: several exceptions apply");
        bounds.noSuch("no sheet, no column", Given::busy, office -> office.clouds(5, 20, 0));
        bounds.noSuch("no sheet, no row", Given::busy, office -> office.clouds(-1, 0, -1));
        bounds.noSuch("no sheet, no field", Given::full, office -> office.clouds(10, -1, 20));
        bounds.noArgument("no column, no row", Given::busy, office -> office.clouds(0, 20, -1));
    }

    private static void cloudsCounts() {
        bounds.sentence("promise 20: how many CLOUDS (QUERIES, and SHEETS with which it CLASHES there)");
        bounds.taken("none on a draft", 0, Given::busy, office -> office.clouds(Given.NEW, 4, 5));
        bounds.taken("20 queries", 20, () -> queries(20), office -> office.clouds(0, 0, 0));
        bounds.taken("beside them", 0, () -> queries(20), office -> office.clouds(0, 1, 0));
        bounds.taken("20 that are closed", 0, CloudsBoundsTest::twentyClosed, office -> office.clouds(0, 0, 0));
        DraftsmanOffice office = new DraftsmanOffice();
        for (int i = 0; i < 10; i++) {
            Given.addIssued(office, i == 0 ? 1 : 2, 0, 0, i, i, 0);
        }
        for (int i = 0; i < 20; i++) {
            office.query(0, 0, 0, 0, 0);
        }
        bounds.due("20 queries and 9 sheets", 29, office.clouds(0, 0, 0));
        bounds.due("on another one", 1, office.clouds(9, 0, 0));
        bounds.due("beside the clash", 0, office.clouds(9, 1, 0));
    }
}
