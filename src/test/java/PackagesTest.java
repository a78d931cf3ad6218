/** Promises 21 to 27: packages of work, days, and the numbers of all. */
public final class PackagesTest {
    private static final Check check = new Check("PackagesTest");

    public static void main(String[] args) {
        pack();
        packRefuses();
        place();
        placeStops();
        start();
        startByWhatIsWrong();
        day();
        dayMarks();
        ofPack();
        whatIsWrongFirst();
        many();
        manyPackages();
        meanRevisions();
        check.end();
    }

    private static void pack() {
        check.promise("promise 21");
        DraftsmanOffice office = Given.handedSheet();
        for (int i = 0; i < 8; i++) {
            check.due("pack()", i, office.pack(i % 4, 1, i + 1));
            check.due("its crew", i % 4, office.ofPack(i, 0));
            check.due("its sheets", 1, office.ofPack(i, 1));
            check.due("its state", 0, office.ofPack(i, 2));
            check.due("its days", i + 1, office.ofPack(i, 3));
        }
        check.noState(office, "the 9th", () -> office.pack(0, 1, 1));
        check.noArgument(office, "the 9th, of no days", () -> office.pack(0, 1, 0));
        check.noArgument(office, "the 9th, of no sheets", () -> office.pack(0, 0, 1));
        office.query(0, 19, 19, 19, 19);
        check.due("its region is all fields", 4, office.ofPack(0, 5));
        office.answer(0, false);
        office.query(0, 0, 0, 0, 0);
        check.due("with the first one", 4, office.ofPack(0, 5));
    }

    private static void packRefuses() {
        check.promise("promise 21");
        DraftsmanOffice office = Given.sheets(2);
        check.noSuch(office, "crew -1", () -> office.pack(-1, 1, 1));
        check.noSuch(office, "crew 4", () -> office.pack(4, 1, 1));
        check.noSuch(office, "crew 4, no sheets", () -> office.pack(4, 0, 0));
        check.noArgument(office, "sheets 0", () -> office.pack(0, 0, 1));
        check.noArgument(office, "sheets -1", () -> office.pack(0, -1, 1));
        check.noArgument(office, "sheets 4", () -> office.pack(0, 4, 1));
        check.noArgument(office, "sheets 5", () -> office.pack(0, 5, 1));
        check.noArgument(office, "sheets MAX", () -> office.pack(0, Integer.MAX_VALUE, 1));
        check.noArgument(office, "days 0", () -> office.pack(0, 1, 0));
        check.noArgument(office, "days -1", () -> office.pack(0, 1, -1));
        check.noArgument(office, "days 10", () -> office.pack(0, 1, 10));
        check.due("of sheets that are not issued", 0, office.pack(3, 3, 9));
    }

    private static void place() {
        check.promise("promise 22");
        DraftsmanOffice office = Given.handedSheet();
        Given.startNew(office, 0, 1, 2);
        check.noSuch(office, "place(-1)", () -> office.place(-1, 0, 0, 0, 0));
        check.noSuch(office, "place(1)", () -> office.place(1, 0, 0, 0, 0));
        check.noSuch(office, "place(1), no region", () -> office.place(1, 0, 0, 0, 20));
        check.noArgument(office, "x is -1", () -> office.place(0, -1, 0, 0, 0));
        check.noArgument(office, "y is -1", () -> office.place(0, 0, -1, 0, 0));
        check.noArgument(office, "toX is 20", () -> office.place(0, 0, 0, 20, 0));
        check.noArgument(office, "toY is 20", () -> office.place(0, 0, 0, 0, 20));
        check.noArgument(office, "toX below x", () -> office.place(0, 1, 0, 0, 0));
        check.noArgument(office, "toY below y", () -> office.place(0, 0, 1, 0, 0));
        check.due("one field", 1, office.place(0, 19, 0, 19, 0));
        check.due("4 by 3 fields", 12, office.place(0, 2, 3, 5, 5));
        check.due("it goes on", 1, office.ofPack(0, 2));
        Given.days(office, 2);
        check.noState(office, "a done one", () -> office.place(0, 0, 0, 0, 0));
        check.noArgument(office, "a done one, no region", () -> office.place(0, 1, 0, 0, 0));
    }

    private static void placeStops() {
        check.promise("promise 22");
        DraftsmanOffice office = Given.handedSheet();
        office.query(0, 5, 5, 5, 5);
        office.pack(0, 1, 2);
        check.due("beside the cloud", 25, office.place(0, 0, 0, 4, 4));
        office.start(0);
        check.due("under the cloud, while it runs", 36, office.place(0, 0, 0, 5, 5));
        check.due("it is stopped", 2, office.ofPack(0, 2));
        check.due("once", 1, office.ofPack(0, 6));
        check.due("a stopped one", 400, office.place(0, 0, 0, 19, 19));
        check.due("it was stopped once", 1, office.ofPack(0, 6));
        check.noState(office, "start under the cloud", () -> office.start(0));
        check.due("beside it again", 1, office.place(0, 5, 6, 5, 6));
        check.due("it starts again", 2, office.start(0));
    }

    private static void start() {
        check.promise("promise 23");
        DraftsmanOffice office = Given.handedSheet();
        check.noSuch(office, "start(0) without packages", () -> office.start(0));
        office.pack(0, 1, 2);
        check.noSuch(office, "start(-1)", () -> office.start(-1));
        check.noSuch(office, "start(1)", () -> office.start(1));
        check.due("start", 2, office.start(0));
        check.due("its state", 1, office.ofPack(0, 2));
        check.noState(office, "start a running one", () -> office.start(0));
        office.day();
        office.query(0, 0, 0, 0, 0);
        check.due("stopped", 2, office.ofPack(0, 2));
        check.noState(office, "start under a cloud", () -> office.start(0));
        office.answer(0, false);
        check.due("start a stopped one", 1, office.start(0));
        office.day();
        check.due("done", 3, office.ofPack(0, 2));
        check.noState(office, "start a done one", () -> office.start(0));
    }

    private static void startByWhatIsWrong() {
        check.promise("promise 23");
        DraftsmanOffice office = Given.sheets(2);
        office.pack(1, 1, 4);
        check.noState(office, "not issued", () -> office.start(0));
        Given.issue(office, 0);
        check.noState(office, "not with the crew", () -> office.start(0));
        Given.hand(office, 0, 1);
        check.noState(office, "with another crew", () -> office.start(0));
        office.revise(0);
        office.refer(0, 1, 5);
        Given.hand(office, 1, 1);
        check.noState(office, "a reference broken", () -> office.start(0));
        office.draw(1, 0, 0, 0, 0, 32);
        Given.issue(office, 1);
        office.query(0, 8, 8, 9, 9);
        check.noState(office, "a cloud", () -> office.start(0));
        office.answer(0, true);
        check.noState(office, "a cloud of a promised one", () -> office.start(0));
        office.place(0, 10, 8, 10, 9);
        check.due("a draft beside it is not wrong", 4, office.start(0));
        DraftsmanOffice worn = Given.handedSheet();
        for (int i = 0; i < 3; i++) {
            check.due("start with " + i + " marks", 1, worn.start(worn.pack(0, 1, 1)));
            worn.day();
        }
        worn.pack(0, 1, 1);
        check.noState(worn, "start with 3 marks", () -> worn.start(3));
    }

    private static void day() {
        check.promise("promise 24");
        DraftsmanOffice office = Given.handedSheet();
        check.due("a day without packages", 0, office.day());
        check.due("the day", 1, office.many(12));
        Given.startNew(office, 0, 1, 1);
        Given.startNew(office, 0, 1, 2);
        office.pack(0, 1, 1);
        check.due("one is done", 1, office.day());
        check.due("its state", 3, office.ofPack(0, 2));
        check.due("the other runs", 1, office.ofPack(1, 2));
        check.due("a day less", 1, office.ofPack(1, 3));
        check.due("the third waits", 0, office.ofPack(2, 2));
        check.due("its days stay", 1, office.ofPack(2, 3));
        office.query(0, 0, 0, 0, 0);
        check.due("a stopped one has no day less", 0, office.day());
        check.due("its days", 1, office.ofPack(1, 3));
        office.answer(0, false);
        office.start(1);
        check.due("the other is done", 1, office.day());
        check.due("days of a done one", 0, office.ofPack(1, 3));
        check.due("nothing more is done", 0, office.day());
        check.due("days of a done one later", 0, office.ofPack(1, 3));
        check.due("the day then", 5, office.many(12));
    }

    private static void dayMarks() {
        check.promise("promise 24");
        DraftsmanOffice office = Given.issuedSheets(3);
        Given.hand(office, 0, 7);
        for (int i = 0; i < 4; i++) {
            Given.startNew(office, 0, 5, 1);
        }
        Given.startNew(office, 0, 1, 2);
        Given.startNew(office, 0, 2, 2);
        Given.startNew(office, 0, 6, 2);
        check.due("all four are done", 4, office.day());
        check.due("marks", 4, office.ofSheet(0, 6));
        check.due("marks of one that was not needed", 0, office.ofSheet(1, 6));
        check.due("marks of the third", 4, office.ofSheet(2, 6));
        check.due("one that goes on is stopped", 2, office.ofPack(4, 2));
        check.due("by its marks", 5, office.ofPack(4, 5));
        check.due("it had a day less", 1, office.ofPack(4, 3));
        check.due("one by another sheet goes on", 1, office.ofPack(5, 2));
        check.due("one by the third too is stopped", 2, office.ofPack(6, 2));
        check.due("a done one was not stopped", 0, office.ofPack(0, 6));
        check.due("the next day", 1, office.day());
    }

    private static void ofPack() {
        check.promise("promise 25");
        DraftsmanOffice office = Given.issuedSheets(3);
        check.noSuch(office, "ofPack(0, 0)", () -> office.ofPack(0, 0));
        office.pack(2, 6, 9);
        check.noSuch(office, "ofPack(-1, 0)", () -> office.ofPack(-1, 0));
        check.noSuch(office, "ofPack(1, 0)", () -> office.ofPack(1, 0));
        check.noSuch(office, "ofPack(1, 7)", () -> office.ofPack(1, 7));
        check.noArgument(office, "ofPack(0, -1)", () -> office.ofPack(0, -1));
        check.noArgument(office, "ofPack(0, 7)", () -> office.ofPack(0, 7));
        expect(office, new long[] {2, 6, 0, 9, 1, 2, 0});
        Given.hand(office, 2, 2);
        expect(office, new long[] {2, 6, 0, 9, 2, 2, 0});
        Given.hand(office, 2, 4);
        expect(office, new long[] {2, 6, 0, 9, -1, 0, 0});
        office.start(0);
        office.day();
        expect(office, new long[] {2, 6, 1, 8, -1, 0, 0});
        Given.reissue(office, 2);
        expect(office, new long[] {2, 6, 2, 8, 2, 2, 1});
        Given.hand(office, 2, 4);
        expect(office, new long[] {2, 6, 2, 8, -1, 0, 1});
        office.start(0);
        office.query(1, 0, 0, 0, 0);
        expect(office, new long[] {2, 6, 2, 8, 1, 4, 2});
        office.answer(0, false);
        office.start(0);
        Given.days(office, 8);
        expect(office, new long[] {2, 6, 3, 0, -1, 0, 2});
        Given.reissue(office, 1);
        expect(office, new long[] {2, 6, 3, 0, 1, 2, 2});
    }

    private static void expect(DraftsmanOffice office, long[] want) {
        for (int what = 0; what < want.length; what++) {
            check.due("ofPack(0, " + what + ")", want[what], office.ofPack(0, what));
        }
    }

    /** All is wrong with a sheet, and mended bit by bit: the first is told. */
    private static void whatIsWrongFirst() {
        check.promise("promise 25");
        DraftsmanOffice office = Given.sheets(2);
        office.pack(1, 1, 1);
        check.due("not issued, not with the crew", 1, office.ofPack(0, 5));
        check.due("which one", 0, office.ofPack(0, 4));
        Given.issue(office, 0);
        Given.hand(office, 0, 1);
        for (int i = 0; i < 3; i++) {
            Given.startNew(office, 0, 1, 1);
        }
        office.day();
        check.due("marks", 3, office.ofSheet(0, 6));
        office.query(0, 0, 0, 0, 0);
        check.due("all but the first", 2, office.ofPack(0, 5));
        Given.hand(office, 1, 1);
        check.due("cloud and marks", 4, office.ofPack(0, 5));
        office.answer(0, false);
        check.due("marks alone", 5, office.ofPack(0, 5));
        office.revise(0);
        check.due("none", 0, office.ofPack(0, 5));
        office.refer(0, 1, 0);
        office.query(0, 0, 0, 0, 0);
        check.due("a broken reference and a cloud", 3, office.ofPack(0, 5));
        office.draw(1, 0, 0, 0, 0, 1);
        Given.issue(office, 1);
        check.due("a cloud", 4, office.ofPack(0, 5));
        Given.issue(office, 0);
        check.due("superseded and a cloud", 2, office.ofPack(0, 5));
    }

    private static void many() {
        check.promise("promise 26");
        DraftsmanOffice office = Given.issuedSheets(2);
        check.noArgument(office, "many(-1)", () -> office.many(-1));
        check.noArgument(office, "many(13)", () -> office.many(13));
        office.sheet(1);
        check.due("sheets", 3, office.many(0));
        office.refer(2, 0, 0);
        office.refer(2, 1, 1);
        check.due("references", 2, office.many(1));
        check.due("broken ones", 2, office.many(2));
        office.revise(0);
        office.draw(0, 0, 0, 0, 0, 1);
        Given.issue(office, 0);
        check.due("broken ones then", 1, office.many(2));
        office.send(1, 1);
        check.due("sendings", 1, office.many(3));
        office.query(0, 0, 0, 0, 0);
        office.query(0, 0, 0, 0, 0);
        office.query(0, 0, 0, 0, 0);
        office.answer(0, true);
        office.answer(1, false);
        check.due("queries", 3, office.many(4));
        check.due("not closed", 2, office.many(5));
        check.due("clashes", 0, office.many(6));
        Given.addIssued(office, 2, 0, 0, 3, 3, 0);
        check.due("pairs that clash", 2, office.many(6));
        Given.addIssued(office, 3, 0, 0, 3, 3, 0);
        check.due("more pairs that clash", 5, office.many(6));
        office.excuse(0, 3);
        check.due("one excused", 4, office.many(6));
        Given.days(office, 3);
        check.due("the day", 3, office.many(12));
    }

    private static void manyPackages() {
        check.promise("promise 26");
        DraftsmanOffice office = Given.issuedSheets(2);
        Given.hand(office, 0, 3);
        Given.startNew(office, 0, 1, 1);
        office.day();
        Given.startNew(office, 0, 2, 9);
        Given.startNew(office, 0, 2, 9);
        Given.startNew(office, 0, 2, 9);
        Given.startNew(office, 0, 1, 9);
        Given.startNew(office, 0, 1, 9);
        office.query(1, 0, 0, 0, 0);
        office.pack(0, 1, 1);
        office.pack(0, 2, 1);
        check.due("packages", 8, office.many(7));
        check.due("waiting", 2, office.many(8));
        check.due("running", 2, office.many(9));
        check.due("stopped", 3, office.many(10));
        check.due("done", 1, office.many(11));
    }

    private static void meanRevisions() {
        check.promise("promise 27");
        DraftsmanOffice office = new DraftsmanOffice();
        check.due("without sheets", 0.0, office.meanRevisions());
        office.sheet(0);
        check.due("one of one", 1.0, office.meanRevisions());
        office.sheet(0);
        Given.issue(office, 0);
        office.revise(0);
        check.due("three of two", 1.5, office.meanRevisions());
        office.sheet(0);
        check.due("four of three", 4.0 / 3.0, office.meanRevisions());
        Given.issue(office, 0);
        office.revise(0);
        check.due("five of three", 5.0 / 3.0, office.meanRevisions());
    }
}
