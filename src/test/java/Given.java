/** Offices in states that several tests begin with. */
final class Given {
    static final int NONE = -1;

    /** How many of each kind there are in a busy office. */
    static final int BUSY_SHEETS = 5;
    static final int BUSY_REFERENCES = 3;
    static final int BUSY_SENDINGS = 2;
    static final int BUSY_QUERIES = 3;
    static final int BUSY_PACKAGES = 4;

    /** The most of each kind that the document allows. */
    static final int MOST_SHEETS = 10;
    static final int MOST_REFERENCES = 20;
    static final int MOST_SENDINGS = 20;
    static final int MOST_QUERIES = 20;
    static final int MOST_PACKAGES = 8;

    /** The sheets of a busy office. */
    static final int DRAFT_BESIDE_ISSUED = 0;
    static final int ISSUED = 1;
    static final int NEW = 2;
    static final int CHECKED_WITH_BROKEN = 3;
    static final int CHECKED_BESIDE_ISSUED = 4;

    /** The packages of a busy office. */
    static final int DONE = 0;
    static final int RUNNING = 1;
    static final int STOPPED = 2;
    static final int WAITING = 3;

    /** The queries of a busy office. */
    static final int OPEN = 0;
    static final int PROMISED = 1;
    static final int CLOSED = 2;

    private Given() {
    }

    static DraftsmanOffice sheets(int count) {
        DraftsmanOffice office = new DraftsmanOffice();
        for (int i = 0; i < count; i++) {
            office.sheet(0);
        }
        return office;
    }

    /** Sheets of one trade, each with its revision 0 issued: column 0 and row 0, no details. */
    static DraftsmanOffice issuedSheets(int count) {
        DraftsmanOffice office = sheets(count);
        for (int i = 0; i < count; i++) {
            issue(office, i);
        }
        return office;
    }

    static int issue(DraftsmanOffice office, int sheet) {
        office.check(sheet);
        return office.issue(sheet);
    }

    static int reissue(DraftsmanOffice office, int sheet) {
        office.revise(sheet);
        return issue(office, sheet);
    }

    static int addIssued(DraftsmanOffice office, int trade, int x, int y, int toX, int toY, int details) {
        int sheet = office.sheet(trade);
        office.draw(sheet, x, y, toX, toY, details);
        issue(office, sheet);
        return sheet;
    }

    /** Lets a crew have what is issued of these sheets. */
    static void hand(DraftsmanOffice office, int crew, int sheets) {
        office.receive(office.send(1 << crew, sheets), crew);
    }

    /** An office with one issued sheet that the crew 0 has. */
    static DraftsmanOffice handedSheet() {
        return handedSheets(1);
    }

    /** An office with issued sheets, all of which the crew 0 has. */
    static DraftsmanOffice handedSheets(int count) {
        DraftsmanOffice office = issuedSheets(count);
        hand(office, 0, (1 << count) - 1);
        return office;
    }

    static int startNew(DraftsmanOffice office, int crew, int sheets, int days) {
        int pack = office.pack(crew, sheets, days);
        office.start(pack);
        return pack;
    }

    static void days(DraftsmanOffice office, int count) {
        for (int i = 0; i < count; i++) {
            office.day();
        }
    }

    /** Gives these sheets, which the crew has, marks: a package of one day is done for each mark. */
    static void marks(DraftsmanOffice office, int crew, int sheets, int count) {
        for (int i = 0; i < count; i++) {
            startNew(office, crew, sheets, 1);
        }
        office.day();
    }

    /** An office with something of each kind, in each state that it can have. */
    static DraftsmanOffice busy() {
        DraftsmanOffice office = new DraftsmanOffice();
        busySheets(office);
        busySendings(office);
        busyWork(office);
        return office;
    }

    private static void busySheets(DraftsmanOffice office) {
        addIssued(office, 0, 0, 0, 9, 9, 15);
        office.sheet(1);
        office.draw(ISSUED, 5, 5, 14, 9, 240);
        office.refer(ISSUED, DRAFT_BESIDE_ISSUED, 3);
        issue(office, ISSUED);
        office.sheet(0);
        office.draw(NEW, 3, 4, 4, 12, 3);
        office.sheet(2);
        office.draw(CHECKED_WITH_BROKEN, 0, 16, 2, 19, 2);
        office.refer(CHECKED_WITH_BROKEN, NEW, 1);
        office.check(CHECKED_WITH_BROKEN);
        addIssued(office, 3, 15, 15, 19, 19, 128);
        office.refer(NEW, CHECKED_BESIDE_ISSUED, 3);
        office.excuse(NEW, CHECKED_BESIDE_ISSUED);
    }

    private static void busySendings(DraftsmanOffice office) {
        office.send(3, 1 << DRAFT_BESIDE_ISSUED | 1 << ISSUED | 1 << CHECKED_BESIDE_ISSUED);
        office.receive(0, 0);
        office.revise(DRAFT_BESIDE_ISSUED);
        office.draw(DRAFT_BESIDE_ISSUED, 2, 2, 5, 6, 31);
        office.revise(CHECKED_BESIDE_ISSUED);
        office.draw(CHECKED_BESIDE_ISSUED, 10, 8, 19, 19, 8);
        office.check(CHECKED_BESIDE_ISSUED);
    }

    /** The crew 1 owes the first sending then, and the second one is 5 days old. */
    private static void busyWork(DraftsmanOffice office) {
        int sheet = 1 << CHECKED_BESIDE_ISSUED;
        startNew(office, 0, sheet, 1);
        office.day();
        office.send(12, 1 << ISSUED);
        office.pack(0, sheet, 9);
        office.place(RUNNING, 15, 15, 19, 19);
        office.start(RUNNING);
        startNew(office, 0, sheet, 5);
        office.query(CHECKED_BESIDE_ISSUED, 0, 0, 1, 1);
        office.query(ISSUED, 6, 6, 16, 16);
        office.answer(PROMISED, true);
        office.query(DRAFT_BESIDE_ISSUED, 1, 1, 3, 3);
        office.answer(CLOSED, false);
        office.pack(1, 1 << DRAFT_BESIDE_ISSUED | 1 << ISSUED, 3);
        office.place(WAITING, 0, 0, 4, 4);
        days(office, 5);
    }

    /** A busy office that has the most of each kind, and a sheet, the last one, with six revisions. */
    static DraftsmanOffice full() {
        DraftsmanOffice office = busy();
        for (int i = BUSY_SHEETS; i < MOST_SHEETS; i++) {
            office.sheet(i % 4);
        }
        sixRevisions(office, MOST_SHEETS - 1);
        for (int i = BUSY_REFERENCES; i < MOST_REFERENCES; i++) {
            office.refer(NEW, ISSUED, 4 + i % 4);
        }
        for (int i = BUSY_SENDINGS; i < MOST_SENDINGS; i++) {
            office.send(8, 1 << ISSUED);
        }
        for (int i = BUSY_QUERIES; i < MOST_QUERIES; i++) {
            office.query(ISSUED, i % 20, 19, 19, 19);
        }
        for (int i = BUSY_PACKAGES; i < MOST_PACKAGES; i++) {
            office.pack(3, 1 << ISSUED, 1);
        }
        return office;
    }

    /** Lets a new sheet have six revisions, the last one of them issued. */
    static void sixRevisions(DraftsmanOffice office, int sheet) {
        issue(office, sheet);
        for (int i = 1; i < 6; i++) {
            reissue(office, sheet);
        }
    }
}
