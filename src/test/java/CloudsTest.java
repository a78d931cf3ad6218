/** Promises 15 to 20: queries, clashes, and the clouds of both. */
public final class CloudsTest {
    private static final Check check = new Check("CloudsTest");

    public static void main(String[] args) {
        query();
        queryRefuses();
        queryStops();
        answer();
        promisedIsClosed();
        ofQuery();
        clash();
        clashChanges();
        excuse();
        excuseStops();
        clouds();
        cloudsOfClashes();
        check.end();
    }

    private static void query() {
        check.promise("promise 15");
        DraftsmanOffice office = Given.issuedSheets(2);
        for (int i = 0; i < 20; i++) {
            check.due("query()", i, office.query(1, 0, 0, 19, 19));
        }
        check.due("queries", 20, office.many(4));
        check.noState(office, "the 21st", () -> office.query(1, 0, 0, 0, 0));
        check.noArgument(office, "the 21st, no region", () -> office.query(1, 0, 0, 0, 20));
        check.due("clouds", 20, office.clouds(1, 7, 7));
        check.due("on the other sheet", 0, office.clouds(0, 7, 7));
    }

    private static void queryRefuses() {
        check.promise("promise 15");
        DraftsmanOffice office = Given.issuedSheets(1);
        office.sheet(0);
        check.noSuch(office, "query(-1)", () -> office.query(-1, 0, 0, 0, 0));
        check.noSuch(office, "query(2)", () -> office.query(2, 0, 0, 0, 0));
        check.noSuch(office, "query(2), no region", () -> office.query(2, 0, 0, 20, 0));
        check.noArgument(office, "x is -1", () -> office.query(0, -1, 0, 0, 0));
        check.noArgument(office, "y is -1", () -> office.query(0, 0, -1, 0, 0));
        check.noArgument(office, "toX is 20", () -> office.query(0, 0, 0, 20, 0));
        check.noArgument(office, "toY is 20", () -> office.query(0, 0, 0, 0, 20));
        check.noArgument(office, "toX below x", () -> office.query(0, 1, 0, 0, 0));
        check.noArgument(office, "toY below y", () -> office.query(0, 0, 1, 0, 0));
        check.noState(office, "none is issued", () -> office.query(1, 0, 0, 0, 0));
        office.check(1);
        check.noState(office, "one is checked", () -> office.query(1, 0, 0, 0, 0));
        check.noArgument(office, "none is issued, no region", () -> office.query(1, 1, 0, 0, 0));
        office.revise(0);
        check.due("one is issued beside a draft", 0, office.query(0, 19, 19, 19, 19));
    }

    private static void queryStops() {
        check.promise("promise 15");
        DraftsmanOffice office = Given.handedSheet();
        Given.startNew(office, 0, 1, 5);
        office.place(0, 0, 0, 4, 4);
        office.query(0, 5, 5, 9, 9);
        check.due("a cloud beside the package", 1, office.ofPack(0, 2));
        office.query(0, 4, 5, 4, 9);
        check.due("a cloud in its columns alone", 1, office.ofPack(0, 2));
        office.query(0, 4, 4, 9, 9);
        check.due("a cloud that touches it stops it", 2, office.ofPack(0, 2));
        check.due("what is wrong", 4, office.ofPack(0, 5));
    }

    private static void answer() {
        check.promise("promise 16");
        DraftsmanOffice office = Given.issuedSheets(1);
        office.query(0, 0, 0, 0, 0);
        office.query(0, 0, 0, 0, 0);
        office.query(0, 0, 0, 0, 0);
        check.noSuch(office, "answer(-1)", () -> office.answer(-1, true));
        check.noSuch(office, "answer(3)", () -> office.answer(3, false));
        check.due("with a change", 1, office.answer(0, true));
        check.due("without a change", 2, office.answer(1, false));
        check.due("the cloud of the promised one stays", 2, office.clouds(0, 0, 0));
        check.noState(office, "a promised one with a change", () -> office.answer(0, true));
        check.noState(office, "a promised one without", () -> office.answer(0, false));
        check.noState(office, "a closed one", () -> office.answer(1, true));
        check.due("not closed", 2, office.many(5));
        DraftsmanOffice handed = Given.handedSheet();
        Given.startNew(handed, 0, 1, 5);
        handed.query(0, 0, 0, 0, 0);
        handed.answer(0, false);
        check.due("no package goes on by itself", 2, handed.ofPack(0, 2));
    }

    private static void promisedIsClosed() {
        check.promise("promise 16");
        DraftsmanOffice office = Given.issuedSheets(2);
        office.revise(0);
        office.query(0, 1, 1, 1, 1);
        office.query(0, 1, 1, 1, 1);
        office.query(1, 1, 1, 1, 1);
        office.query(0, 1, 1, 1, 1);
        office.answer(0, true);
        office.answer(2, true);
        office.answer(3, true);
        check.due("promised before the check", 1, office.ofQuery(0));
        Given.issue(office, 0);
        check.due("closed by a revision begun before", 2, office.ofQuery(0));
        check.due("another one of it too", 2, office.ofQuery(3));
        check.due("an open one stays", 0, office.ofQuery(1));
        check.due("that of another sheet stays", 1, office.ofQuery(2));
        check.noState(office, "a closed one", () -> office.answer(0, false));
        Given.reissue(office, 1);
        check.due("as its own sheet is issued", 2, office.ofQuery(2));
        check.due("its cloud is gone", 0, office.clouds(1, 1, 1));
    }

    private static void ofQuery() {
        check.promise("promise 17");
        DraftsmanOffice office = Given.issuedSheets(1);
        check.noSuch(office, "ofQuery(0)", () -> office.ofQuery(0));
        office.query(0, 0, 0, 0, 0);
        check.noSuch(office, "ofQuery(-1)", () -> office.ofQuery(-1));
        check.noSuch(office, "ofQuery(1)", () -> office.ofQuery(1));
        check.due("an open one", 0, office.ofQuery(0));
        office.answer(0, true);
        check.due("a promised one", 1, office.ofQuery(0));
        office.revise(0);
        office.check(0);
        check.due("a promised one of a checked sheet", 1, office.ofQuery(0));
        office.issue(0);
        check.due("a closed one", 2, office.ofQuery(0));
    }

    private static void clash() {
        check.promise("promise 18");
        DraftsmanOffice office = new DraftsmanOffice();
        Given.addIssued(office, 0, 0, 0, 9, 9, 0);
        Given.addIssued(office, 1, 5, 6, 14, 19, 0);
        Given.addIssued(office, 1, 9, 9, 9, 9, 0);
        Given.addIssued(office, 2, 10, 0, 19, 9, 0);
        Given.addIssued(office, 3, 0, 10, 9, 10, 0);
        check.noSuch(office, "clash(-1, 0)", () -> office.clash(-1, 0));
        check.noSuch(office, "clash(0, -1)", () -> office.clash(0, -1));
        check.noSuch(office, "clash(5, 0)", () -> office.clash(5, 0));
        check.noSuch(office, "clash(0, 5)", () -> office.clash(0, 5));
        check.noSuch(office, "clash(5, 5)", () -> office.clash(5, 5));
        check.noArgument(office, "clash(0, 0)", () -> office.clash(0, 0));
        check.due("5 by 4 fields", 20, office.clash(0, 1));
        check.due("the other way round", 20, office.clash(1, 0));
        check.due("in a corner", 1, office.clash(0, 2));
        check.due("of the same trade", 0, office.clash(1, 2));
        check.due("beside each other", 0, office.clash(0, 3));
        check.due("below each other", 0, office.clash(0, 4));
        check.due("pairs", 4, office.many(6));
    }

    private static void clashChanges() {
        check.promise("promise 18");
        DraftsmanOffice office = new DraftsmanOffice();
        Given.addIssued(office, 0, 0, 0, 9, 9, 0);
        office.sheet(1);
        office.draw(1, 0, 0, 9, 9, 0);
        check.due("with a draft", 0, office.clash(0, 1));
        office.check(1);
        check.due("with a checked one", 0, office.clash(0, 1));
        office.issue(1);
        check.due("with an issued one", 100, office.clash(0, 1));
        office.revise(1);
        office.draw(1, 0, 0, 0, 1, 0);
        check.due("the issued one beside a draft", 100, office.clash(0, 1));
        Given.issue(office, 1);
        check.due("the new one", 2, office.clash(0, 1));
    }

    private static void excuse() {
        check.promise("promise 19");
        DraftsmanOffice office = new DraftsmanOffice();
        Given.addIssued(office, 0, 0, 0, 9, 9, 0);
        Given.addIssued(office, 1, 0, 0, 9, 9, 0);
        Given.addIssued(office, 2, 0, 0, 9, 9, 0);
        check.noSuch(office, "excuse(-1, 0)", () -> Check.number(office.excuse(-1, 0)));
        check.noSuch(office, "excuse(0, 3)", () -> Check.number(office.excuse(0, 3)));
        check.noSuch(office, "excuse(3, 3)", () -> Check.number(office.excuse(3, 3)));
        check.noArgument(office, "excuse(1, 1)", () -> Check.number(office.excuse(1, 1)));
        check.due("excuse", true, office.excuse(0, 1));
        check.due("excused", 0, office.clash(0, 1));
        check.due("excused the other way round", 0, office.clash(1, 0));
        check.due("others are not", 100, office.clash(1, 2));
        check.due("no more, the other way round", false, office.excuse(1, 0));
        check.due("they clash", 100, office.clash(0, 1));
        check.due("they clash the other way round", 100, office.clash(1, 0));
        check.due("once more", true, office.excuse(1, 0));
        Given.reissue(office, 0);
        check.due("excused with a new revision", 0, office.clash(0, 1));
        office.sheet(0);
        office.sheet(0);
        check.due("of the same trade, not issued", true, office.excuse(3, 4));
    }

    private static void excuseStops() {
        check.promise("promise 19");
        DraftsmanOffice office = new DraftsmanOffice();
        Given.addIssued(office, 0, 0, 0, 9, 9, 0);
        Given.addIssued(office, 1, 0, 0, 9, 9, 0);
        Given.hand(office, 0, 3);
        office.excuse(0, 1);
        Given.startNew(office, 0, 1, 5);
        Given.startNew(office, 0, 2, 5);
        office.excuse(0, 1);
        check.due("the clash stops the one", 2, office.ofPack(0, 2));
        check.due("and the other", 2, office.ofPack(1, 2));
        check.due("each was stopped once", 1, office.ofPack(1, 6));
    }

    private static void clouds() {
        check.promise("promise 20");
        DraftsmanOffice office = Given.issuedSheets(1);
        check.noSuch(office, "clouds(-1)", () -> office.clouds(-1, 0, 0));
        check.noSuch(office, "clouds(1)", () -> office.clouds(1, 0, 0));
        check.noSuch(office, "clouds(1), no field", () -> office.clouds(1, 20, 0));
        check.noArgument(office, "x is -1", () -> office.clouds(0, -1, 0));
        check.noArgument(office, "x is 20", () -> office.clouds(0, 20, 0));
        check.noArgument(office, "y is -1", () -> office.clouds(0, 0, -1));
        check.noArgument(office, "y is 20", () -> office.clouds(0, 0, 20));
        check.due("none", 0, office.clouds(0, 19, 19));
        office.query(0, 3, 5, 6, 8);
        for (int x = 0; x < 20; x++) {
            for (int y = 0; y < 20; y++) {
                boolean isIn = x >= 3 && x <= 6 && y >= 5 && y <= 8;
                check.due("clouds(0, " + x + ", " + y + ")", isIn ? 1 : 0, office.clouds(0, x, y));
            }
        }
        office.query(0, 6, 8, 19, 19);
        check.due("two of them", 2, office.clouds(0, 6, 8));
        office.answer(0, false);
        check.due("one is closed", 1, office.clouds(0, 6, 8));
    }

    private static void cloudsOfClashes() {
        check.promise("promise 20");
        DraftsmanOffice office = new DraftsmanOffice();
        Given.addIssued(office, 0, 0, 0, 9, 9, 0);
        Given.addIssued(office, 1, 5, 5, 14, 14, 0);
        Given.addIssued(office, 2, 7, 7, 7, 7, 0);
        check.due("of both on the first", 2, office.clouds(0, 7, 7));
        check.due("of one on the first", 1, office.clouds(0, 5, 9));
        check.due("beside the clash, on the first", 0, office.clouds(0, 4, 4));
        check.due("on the second", 2, office.clouds(1, 7, 7));
        check.due("beside the clash, on the second", 0, office.clouds(1, 10, 10));
        office.query(0, 7, 7, 7, 7);
        check.due("with a query", 3, office.clouds(0, 7, 7));
        check.due("the query is on its own sheet", 2, office.clouds(2, 7, 7));
        office.excuse(0, 2);
        check.due("one excused", 2, office.clouds(0, 7, 7));
    }
}
