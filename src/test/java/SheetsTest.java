/** Promises 1 to 10: the new office, sheets, their revisions and references. */
public final class SheetsTest {
    private static final Check check = new Check("SheetsTest");

    public static void main(String[] args) {
        newOffice();
        sheet();
        draw();
        drawRefuses();
        revise();
        checkCounts();
        issue();
        issueStops();
        refer();
        referStops();
        ofSheet();
        ofSheetOfTheIssuedOne();
        status();
        holds();
        check.end();
    }

    private static void newOffice() {
        check.promise("promise 1");
        DraftsmanOffice office = new DraftsmanOffice();
        for (int what = 0; what <= 12; what++) {
            check.due("many(" + what + ")", 0, office.many(what));
        }
        check.noSuch(office, "ofSheet(0, 0)", () -> office.ofSheet(0, 0));
        DraftsmanOffice other = new DraftsmanOffice();
        other.sheet(0);
        check.due("many(0) when another office has a sheet", 0, office.many(0));
    }

    private static void sheet() {
        check.promise("promise 2");
        DraftsmanOffice office = new DraftsmanOffice();
        check.noArgument(office, "sheet(-1)", () -> office.sheet(-1));
        check.noArgument(office, "sheet(4)", () -> office.sheet(4));
        check.noArgument(office, "sheet(MIN)", () -> office.sheet(Integer.MIN_VALUE));
        check.noArgument(office, "sheet(MAX)", () -> office.sheet(Integer.MAX_VALUE));
        for (int i = 0; i < 10; i++) {
            check.due("sheet()", i, office.sheet(i % 4));
            check.due("its trade", i % 4, office.ofSheet(i, 0));
        }
        check.noState(office, "the 11th sheet", () -> office.sheet(0));
        check.noArgument(office, "the 11th sheet of no trade", () -> office.sheet(4));
        check.due("revisions of a new sheet", 1, office.ofSheet(9, 1));
        check.due("its status", 0, office.ofSheet(9, 3));
        Given.issue(office, 0);
        check.due("fields of a new sheet", 1, office.ofSheet(0, 4));
        check.due("details of a new sheet", 0, office.ofSheet(0, 5));
        Given.issue(office, 1);
        check.due("the field of a new sheet", 1, office.clouds(0, 0, 0));
    }

    private static void draw() {
        check.promise("promise 3");
        DraftsmanOffice office = Given.sheets(1);
        check.due("draw one field", 1, office.draw(0, 5, 6, 5, 6, 1));
        check.due("draw the last field", 1, office.draw(0, 19, 19, 19, 19, 255));
        check.due("draw a row", 20, office.draw(0, 0, 19, 19, 19, 0));
        check.due("draw a column", 20, office.draw(0, 19, 0, 19, 19, 0));
        check.due("draw 3 by 2", 6, office.draw(0, 2, 7, 4, 8, 0));
        check.due("draw all", 400, office.draw(0, 0, 0, 19, 19, 129));
        Given.issue(office, 0);
        check.due("the issued fields", 400, office.ofSheet(0, 4));
        check.due("the issued details", 129, office.ofSheet(0, 5));
        office.revise(0);
        check.due("draw the next revision", 2, office.draw(0, 3, 4, 4, 4, 6));
        check.due("the issued fields stay", 400, office.ofSheet(0, 4));
        check.due("the issued details stay", 129, office.ofSheet(0, 5));
        Given.issue(office, 0);
        check.due("the fields then", 2, office.ofSheet(0, 4));
        check.due("the details then", 6, office.ofSheet(0, 5));
    }

    private static void drawRefuses() {
        check.promise("promise 3");
        DraftsmanOffice office = Given.sheets(2);
        check.noSuch(office, "draw(-1)", () -> office.draw(-1, 0, 0, 0, 0, 0));
        check.noSuch(office, "draw(2)", () -> office.draw(2, 0, 0, 0, 0, 0));
        check.noSuch(office, "draw(2), no region", () -> office.draw(2, 1, 0, 0, 0, 256));
        check.noArgument(office, "x is -1", () -> office.draw(0, -1, 0, 0, 0, 0));
        check.noArgument(office, "y is -1", () -> office.draw(0, 0, -1, 0, 0, 0));
        check.noArgument(office, "toX is 20", () -> office.draw(0, 0, 0, 20, 0, 0));
        check.noArgument(office, "toY is 20", () -> office.draw(0, 0, 0, 0, 20, 0));
        check.noArgument(office, "toX below x", () -> office.draw(0, 3, 0, 2, 0, 0));
        check.noArgument(office, "toY below y", () -> office.draw(0, 0, 3, 0, 2, 0));
        check.noArgument(office, "all -1", () -> office.draw(0, -1, -1, -1, -1, 0));
        check.noArgument(office, "all 20", () -> office.draw(0, 20, 20, 20, 20, 0));
        check.noArgument(office, "details -1", () -> office.draw(0, 0, 0, 0, 0, -1));
        check.noArgument(office, "details 256", () -> office.draw(0, 0, 0, 0, 0, 256));
        office.check(0);
        check.noState(office, "draw a checked one", () -> office.draw(0, 0, 0, 0, 0, 0));
        check.noArgument(office, "draw a checked one, no region", () -> office.draw(0, 1, 0, 0, 0, 0));
        check.noArgument(office, "draw a checked one, no details", () -> office.draw(0, 0, 0, 0, 0, 256));
        office.issue(0);
        check.noState(office, "draw an issued one", () -> office.draw(0, 0, 0, 0, 0, 0));
    }

    private static void revise() {
        check.promise("promise 4");
        DraftsmanOffice office = Given.sheets(2);
        check.noSuch(office, "revise(-1)", () -> office.revise(-1));
        check.noSuch(office, "revise(2)", () -> office.revise(2));
        check.noState(office, "revise a draft", () -> office.revise(0));
        office.draw(0, 1, 1, 2, 3, 9);
        office.check(0);
        check.noState(office, "revise a checked one", () -> office.revise(0));
        office.issue(0);
        for (int i = 1; i <= 5; i++) {
            check.due("revise()", i, office.revise(0));
            check.due("its status", 0, office.status(0, i));
            check.due("the issued one", i - 1, office.ofSheet(0, 2));
            Given.issue(office, 0);
            check.due("fields as before", 6, office.ofSheet(0, 4));
            check.due("details as before", 9, office.ofSheet(0, 5));
        }
        check.noState(office, "the 7th revision", () -> office.revise(0));
        check.due("revisions", 6, office.ofSheet(0, 1));
        revisedMarks();
    }

    private static void revisedMarks() {
        DraftsmanOffice office = Given.issuedSheets(2);
        Given.hand(office, 0, 3);
        Given.startNew(office, 0, 3, 1);
        office.day();
        check.due("marks", 1, office.ofSheet(0, 6));
        office.revise(0);
        check.due("marks of the revised one", 0, office.ofSheet(0, 6));
        check.due("marks of the other one", 1, office.ofSheet(1, 6));
    }

    private static void checkCounts() {
        check.promise("promise 5");
        DraftsmanOffice office = Given.sheets(3);
        check.noSuch(office, "check(-1)", () -> office.check(-1));
        check.noSuch(office, "check(3)", () -> office.check(3));
        office.refer(0, 1, 0);
        office.refer(0, 1, 7);
        office.refer(0, 2, 3);
        office.refer(1, 2, 3);
        office.draw(2, 0, 0, 0, 0, 8);
        check.due("check without references", 0, office.check(2));
        check.due("check with broken ones", 3, office.check(0));
        office.issue(2);
        check.due("the reference to the issued one holds", 0, office.check(1));
        check.due("its status", 1, office.status(1, 0));
        check.noState(office, "check a checked one", () -> office.check(1));
        office.issue(1);
        check.noState(office, "check an issued one", () -> office.check(1));
        check.due("two are broken still", 2, office.ofSheet(0, 7));
    }

    private static void issue() {
        check.promise("promise 6");
        DraftsmanOffice office = Given.sheets(2);
        check.noSuch(office, "issue(-1)", () -> office.issue(-1));
        check.noSuch(office, "issue(2)", () -> office.issue(2));
        check.noState(office, "issue a draft", () -> office.issue(0));
        office.refer(0, 1, 2);
        office.check(0);
        check.noState(office, "issue with a broken reference", () -> office.issue(0));
        check.due("the status stays", 1, office.status(0, 0));
        office.draw(1, 0, 0, 0, 0, 4);
        check.due("issue stops none", 0, Given.issue(office, 1));
        check.due("issue as the reference holds", 0, office.issue(0));
        check.due("the status then", 2, office.status(0, 0));
        check.noState(office, "issue an issued one", () -> office.issue(0));
        office.revise(0);
        check.noState(office, "issue a draft with an issued one", () -> office.issue(0));
        Given.issue(office, 0);
        check.due("the old one is superseded", 3, office.status(0, 0));
        check.due("the new one is issued", 2, office.status(0, 1));
        issueWithBrokenReferenceToIt();
    }

    private static void issueWithBrokenReferenceToIt() {
        DraftsmanOffice office = Given.sheets(2);
        office.refer(0, 1, 2);
        check.due("a broken reference to it is no hindrance", 0, Given.issue(office, 1));
    }

    private static void issueStops() {
        check.promise("promise 6");
        DraftsmanOffice office = Given.issuedSheets(3);
        Given.hand(office, 0, 7);
        Given.startNew(office, 0, 1, 5);
        Given.startNew(office, 0, 2, 5);
        Given.startNew(office, 0, 3, 5);
        office.pack(0, 1, 5);
        check.due("issue stops those that need it", 2, Given.reissue(office, 0));
        check.due("the first", 2, office.ofPack(0, 2));
        check.due("the second goes on", 1, office.ofPack(1, 2));
        check.due("the third", 2, office.ofPack(2, 2));
        check.due("the fourth waits", 0, office.ofPack(3, 2));
        check.due("issue stops none twice", 0, Given.reissue(office, 0));
        check.due("it was stopped once", 1, office.ofPack(0, 6));
        issueThatBreaks();
    }

    /** A detail that goes stops the work by the sheet that refers to it. */
    private static void issueThatBreaks() {
        DraftsmanOffice office = new DraftsmanOffice();
        Given.addIssued(office, 0, 0, 0, 0, 0, 1);
        office.sheet(0);
        office.refer(1, 0, 0);
        Given.issue(office, 1);
        Given.hand(office, 2, 2);
        Given.startNew(office, 2, 2, 5);
        check.due("issue with the detail stops none", 0, Given.reissue(office, 0));
        office.revise(0);
        office.draw(0, 0, 0, 0, 0, 254);
        check.due("issue without it stops the other's", 1, Given.issue(office, 0));
        check.due("what is wrong", 3, office.ofPack(0, 5));
    }

    private static void refer() {
        check.promise("promise 7");
        DraftsmanOffice office = Given.sheets(2);
        check.noSuch(office, "refer(-1, 0)", () -> office.refer(-1, 0, 0));
        check.noSuch(office, "refer(0, -1)", () -> office.refer(0, -1, 0));
        check.noSuch(office, "refer(2, 0)", () -> office.refer(2, 0, 0));
        check.noSuch(office, "refer(0, 2)", () -> office.refer(0, 2, 0));
        check.noSuch(office, "refer(2, 2, 8)", () -> office.refer(2, 2, 8));
        check.noArgument(office, "refer(1, 1, 0)", () -> office.refer(1, 1, 0));
        check.noArgument(office, "refer(0, 1, -1)", () -> office.refer(0, 1, -1));
        check.noArgument(office, "refer(0, 1, 8)", () -> office.refer(0, 1, 8));
        office.check(1);
        check.noState(office, "refer from a checked one", () -> office.refer(1, 0, 0));
        check.noArgument(office, "refer from a checked one, no detail", () -> office.refer(1, 0, 8));
        check.due("refer to a checked one", 0, office.refer(0, 1, 7));
        office.issue(1);
        check.noState(office, "refer from an issued one", () -> office.refer(1, 0, 0));
        for (int i = 1; i < 20; i++) {
            check.due("refer()", i, office.refer(0, 1, 0));
        }
        check.noState(office, "the 21st reference", () -> office.refer(0, 1, 0));
        check.noArgument(office, "the 21st reference, no detail", () -> office.refer(0, 1, 8));
        check.due("references", 20, office.many(1));
    }

    private static void referStops() {
        check.promise("promise 7");
        DraftsmanOffice office = Given.issuedSheets(2);
        Given.hand(office, 0, 3);
        Given.startNew(office, 0, 1, 5);
        office.revise(0);
        office.refer(0, 1, 0);
        check.due("a broken reference from a draft stops the work", 2, office.ofPack(0, 2));
    }

    private static void ofSheet() {
        check.promise("promise 8");
        DraftsmanOffice office = new DraftsmanOffice();
        office.sheet(3);
        check.noSuch(office, "ofSheet(-1, 0)", () -> office.ofSheet(-1, 0));
        check.noSuch(office, "ofSheet(1, 0)", () -> office.ofSheet(1, 0));
        check.noSuch(office, "ofSheet(1, 10)", () -> office.ofSheet(1, 10));
        check.noArgument(office, "ofSheet(0, -1)", () -> office.ofSheet(0, -1));
        check.noArgument(office, "ofSheet(0, 10)", () -> office.ofSheet(0, 10));
        long[] fresh = {3, 1, -1, 0, 0, 0, 0, 0, 0, 0};
        expect(office, 0, fresh);
        office.draw(0, 0, 0, 9, 9, 255);
        expect(office, 0, fresh);
        office.check(0);
        long[] checked = {3, 1, -1, 1, 0, 0, 0, 0, 0, 0};
        expect(office, 0, checked);
        office.issue(0);
        long[] issued = {3, 1, 0, 2, 100, 255, 0, 0, 0, 0};
        expect(office, 0, issued);
        office.revise(0);
        long[] revised = {3, 2, 0, 0, 100, 255, 0, 0, 0, 0};
        expect(office, 0, revised);
    }

    private static void expect(DraftsmanOffice office, int sheet, long[] want) {
        for (int what = 0; what < want.length; what++) {
            check.due("ofSheet(" + sheet + ", " + what + ")", want[what], office.ofSheet(sheet, what));
        }
    }

    private static void ofSheetOfTheIssuedOne() {
        check.promise("promise 8");
        DraftsmanOffice office = Given.sheets(3);
        office.refer(0, 1, 0);
        office.refer(0, 2, 1);
        office.refer(1, 2, 1);
        check.due("broken from 0", 2, office.ofSheet(0, 7));
        check.due("broken from 1", 1, office.ofSheet(1, 7));
        check.due("broken from 2", 0, office.ofSheet(2, 7));
        check.due("broken to 0", 0, office.ofSheet(0, 8));
        check.due("broken to 1", 1, office.ofSheet(1, 8));
        check.due("broken to 2", 2, office.ofSheet(2, 8));
        office.draw(2, 0, 0, 19, 19, 2);
        Given.issue(office, 2);
        check.due("broken to 2 then", 0, office.ofSheet(2, 8));
        check.due("broken from 0 then", 1, office.ofSheet(0, 7));
        Given.addIssued(office, 1, 0, 0, 0, 0, 0);
        Given.addIssued(office, 2, 19, 19, 19, 19, 0);
        Given.addIssued(office, 0, 5, 5, 5, 5, 0);
        check.due("clashes of 2", 2, office.ofSheet(2, 9));
        check.due("clashes of 3", 1, office.ofSheet(3, 9));
        check.due("clashes of 5, of the same trade", 0, office.ofSheet(5, 9));
        office.excuse(3, 2);
        check.due("clashes of 2, one excused", 1, office.ofSheet(2, 9));
        DraftsmanOffice two = new DraftsmanOffice();
        Given.addIssued(two, 0, 0, 0, 0, 0, 0);
        Given.addIssued(two, 1, 0, 0, 0, 0, 0);
        check.due("clashes of 1 with the first sheet", 1, two.ofSheet(1, 9));
        check.due("clashes of the first sheet", 1, two.ofSheet(0, 9));
    }

    private static void status() {
        check.promise("promise 9");
        DraftsmanOffice office = Given.sheets(1);
        check.noSuch(office, "status(-1, 0)", () -> office.status(-1, 0));
        check.noSuch(office, "status(1, 0)", () -> office.status(1, 0));
        check.noSuch(office, "status(0, -1)", () -> office.status(0, -1));
        check.noSuch(office, "status(0, 1)", () -> office.status(0, 1));
        check.due("a draft", 0, office.status(0, 0));
        office.check(0);
        check.due("a checked one", 1, office.status(0, 0));
        office.issue(0);
        check.due("an issued one", 2, office.status(0, 0));
        office.revise(0);
        check.due("the issued one beside a draft", 2, office.status(0, 0));
        check.due("a draft beside an issued one", 0, office.status(0, 1));
        office.check(0);
        check.due("the issued one beside a checked one", 2, office.status(0, 0));
        check.due("a checked one beside an issued one", 1, office.status(0, 1));
        office.issue(0);
        check.due("a superseded one", 3, office.status(0, 0));
        Given.reissue(office, 0);
        check.due("one superseded long ago", 3, office.status(0, 0));
        check.due("one superseded now", 3, office.status(0, 1));
        check.due("the last one", 2, office.status(0, 2));
        check.noSuch(office, "status(0, 3)", () -> office.status(0, 3));
        check.noSuch(office, "status(0, MAX)", () -> office.status(0, Integer.MAX_VALUE));
    }

    private static void holds() {
        check.promise("promise 10");
        DraftsmanOffice office = Given.sheets(2);
        check.noSuch(office, "holds(-1)", () -> Check.number(office.holds(-1)));
        check.noSuch(office, "holds(0)", () -> Check.number(office.holds(0)));
        office.refer(0, 1, 7);
        office.refer(0, 1, 0);
        check.noSuch(office, "holds(2)", () -> Check.number(office.holds(2)));
        office.draw(1, 0, 0, 0, 0, 128);
        check.due("to a draft", false, office.holds(0));
        office.check(1);
        check.due("to a checked one", false, office.holds(0));
        office.issue(1);
        check.due("to an issued one with the detail", true, office.holds(0));
        check.due("to an issued one without it", false, office.holds(1));
        office.revise(1);
        office.draw(1, 0, 0, 0, 0, 1);
        check.due("the issued one tells still", true, office.holds(0));
        check.due("the draft does not", false, office.holds(1));
        Given.issue(office, 1);
        check.due("a detail that is gone", false, office.holds(0));
        check.due("a detail that came", true, office.holds(1));
    }
}
