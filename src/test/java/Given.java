/** Offices in states that several tests begin with. */
final class Given {
    static final int NONE = -1;

    private Given() {
    }

    static DraftsmanOffice sheets(int count) {
        DraftsmanOffice office = new DraftsmanOffice();
        for (int i = 0; i < count; i++) {
            office.sheet(0);
        }
        return office;
    }

    /** Sheets of one trade, each with its revision 0 issued: column 0 and row 0, no details. */
    static DraftsmanOffice issuedSheets(int count) {
        DraftsmanOffice office = sheets(count);
        for (int i = 0; i < count; i++) {
            issue(office, i);
        }
        return office;
    }

    static int issue(DraftsmanOffice office, int sheet) {
        office.check(sheet);
        return office.issue(sheet);
    }

    static int reissue(DraftsmanOffice office, int sheet) {
        office.revise(sheet);
        return issue(office, sheet);
    }

    static int addIssued(DraftsmanOffice office, int trade, int x, int y, int toX, int toY, int details) {
        int sheet = office.sheet(trade);
        office.draw(sheet, x, y, toX, toY, details);
        issue(office, sheet);
        return sheet;
    }

    /** Lets a crew have what is issued of these sheets. */
    static void hand(DraftsmanOffice office, int crew, int sheets) {
        office.receive(office.send(1 << crew, sheets), crew);
    }

    /** An office with one issued sheet that the crew 0 has. */
    static DraftsmanOffice handedSheet() {
        DraftsmanOffice office = issuedSheets(1);
        hand(office, 0, 1);
        return office;
    }

    static int startNew(DraftsmanOffice office, int crew, int sheets, int days) {
        int pack = office.pack(crew, sheets, days);
        office.start(pack);
        return pack;
    }

    static void days(DraftsmanOffice office, int count) {
        for (int i = 0; i < count; i++) {
            office.day();
        }
    }
}
