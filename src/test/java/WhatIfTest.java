/** Promises 28 to 31: what would be; nothing is changed by asking. */
public final class WhatIfTest {
    private static final Check check = new Check("WhatIfTest");

    public static void main(String[] args) {
        stoppedBy();
        stoppedByOthers();
        stoppedByNewClash();
        stoppedByChangesNothing();
        freedBy();
        freedByChangesNothing();
        freedByAll();
        freedByAllOfManySendings();
        digestOfNothing();
        digest();
        check.end();
    }

    private static void stoppedBy() {
        check.promise("promise 28");
        DraftsmanOffice office = Given.handedSheet();
        check.noSuch(office, "stoppedBy(-1)", () -> office.stoppedBy(-1));
        check.noSuch(office, "stoppedBy(1)", () -> office.stoppedBy(1));
        check.due("an issued one", Given.NONE, office.stoppedBy(0));
        Given.startNew(office, 0, 1, 5);
        Given.startNew(office, 0, 1, 5);
        office.pack(0, 1, 5);
        office.revise(0);
        check.due("a draft", Given.NONE, office.stoppedBy(0));
        office.check(0);
        check.due("a checked one", 2, office.stoppedBy(0));
        check.due("as issue() says", 2, office.issue(0));
        office.revise(0);
        office.check(0);
        check.due("those that are stopped are not told", 0, office.stoppedBy(0));
    }

    private static void stoppedByOthers() {
        check.promise("promise 28");
        DraftsmanOffice office = new DraftsmanOffice();
        Given.addIssued(office, 0, 0, 0, 0, 0, 1);
        office.sheet(0);
        office.refer(1, 0, 0);
        office.check(1);
        check.due("of references that hold", 0, office.stoppedBy(1));
        office.issue(1);
        Given.hand(office, 0, 2);
        Given.startNew(office, 0, 2, 5);
        office.revise(0);
        office.check(0);
        check.due("with the detail", 0, office.stoppedBy(0));
        office.issue(0);
        office.revise(0);
        office.draw(0, 0, 0, 0, 0, 0);
        office.check(0);
        check.due("without the detail", 1, office.stoppedBy(0));
        check.due("the reference holds still", true, office.holds(0));
        office.sheet(0);
        office.refer(2, 0, 7);
        office.check(2);
        check.due("of a broken reference", Given.NONE, office.stoppedBy(2));
    }

    private static void stoppedByNewClash() {
        check.promise("promise 28");
        DraftsmanOffice office = new DraftsmanOffice();
        Given.addIssued(office, 0, 0, 0, 9, 9, 0);
        Given.hand(office, 0, 1);
        Given.startNew(office, 0, 1, 5);
        office.place(0, 0, 0, 4, 4);
        office.sheet(1);
        office.draw(1, 5, 0, 19, 19, 0);
        office.check(1);
        check.due("a clash beside the package", 0, office.stoppedBy(1));
        office.sheet(1);
        office.draw(2, 4, 0, 19, 19, 0);
        office.check(2);
        check.due("a clash over the package", 1, office.stoppedBy(2));
        office.excuse(0, 2);
        check.due("an excused one", 0, office.stoppedBy(2));
        check.due("none clashes still", 0, office.many(6));
    }

    private static void stoppedByChangesNothing() {
        check.promise("promise 28");
        DraftsmanOffice office = Given.handedSheet();
        office.query(0, 3, 3, 4, 4);
        office.query(0, 3, 3, 4, 4);
        office.answer(0, true);
        office.revise(0);
        office.draw(0, 0, 0, 5, 5, 3);
        office.check(0);
        long before = office.digest();
        check.due("stoppedBy", 0, office.stoppedBy(0));
        check.due("the digest stays", before, office.digest());
        check.due("the issued one stays", 0, office.ofSheet(0, 2));
        check.due("its fields stay", 1, office.ofSheet(0, 4));
        check.due("its details stay", 0, office.ofSheet(0, 5));
        check.due("the promised one stays", 1, office.ofQuery(0));
        check.due("the open one stays", 0, office.ofQuery(1));
        check.due("the status stays", 1, office.status(0, 1));
        DraftsmanOffice fresh = Given.sheets(1);
        fresh.check(0);
        check.due("of the first revision", 0, fresh.stoppedBy(0));
        check.due("none is issued", Given.NONE, fresh.ofSheet(0, 2));
        check.due("no fields", 0, fresh.ofSheet(0, 4));
    }

    private static void freedBy() {
        check.promise("promise 29");
        DraftsmanOffice office = Given.issuedSheets(2);
        Given.hand(office, 0, 3);
        check.noSuch(office, "freedBy(0)", () -> office.freedBy(0));
        Given.startNew(office, 0, 1, 5);
        Given.startNew(office, 0, 3, 5);
        Given.startNew(office, 0, 2, 5);
        office.pack(0, 1, 5);
        office.query(0, 5, 5, 9, 9);
        check.noSuch(office, "freedBy(-1)", () -> office.freedBy(-1));
        check.noSuch(office, "freedBy(1)", () -> office.freedBy(1));
        check.due("the stopped ones, not the waiting one", 2, office.freedBy(0));
        office.answer(0, true);
        check.due("of a promised one", 2, office.freedBy(0));
        office.query(1, 0, 0, 0, 0);
        check.due("one has a second cloud", 1, office.freedBy(0));
        check.due("of the other cloud", 1, office.freedBy(1));
        office.place(0, 10, 10, 19, 19);
        check.due("one can be already", 0, office.freedBy(0));
        office.answer(1, false);
        check.due("the third can be already, the second not", 1, office.freedBy(0));
        check.due("of a closed one", 0, office.freedBy(1));
    }

    private static void freedByChangesNothing() {
        check.promise("promise 29");
        DraftsmanOffice office = Given.handedSheet();
        Given.startNew(office, 0, 1, 5);
        office.query(0, 0, 0, 0, 0);
        long before = office.digest();
        check.due("freedBy", 1, office.freedBy(0));
        check.due("the digest stays", before, office.digest());
        check.due("the query stays", 0, office.ofQuery(0));
        check.due("the package stays", 2, office.ofPack(0, 2));
        office.answer(0, true);
        office.freedBy(0);
        check.due("the promised one stays", 1, office.ofQuery(0));
    }

    private static void freedByAll() {
        check.promise("promise 30");
        DraftsmanOffice office = Given.issuedSheets(2);
        check.noSuch(office, "freedByAll(-1)", () -> office.freedByAll(-1));
        check.noSuch(office, "freedByAll(4)", () -> office.freedByAll(4));
        office.pack(0, 1, 5);
        office.pack(0, 3, 5);
        office.pack(1, 1, 5);
        check.due("nothing was sent", 0, office.freedByAll(0));
        office.send(1, 1);
        check.due("one is freed", 1, office.freedByAll(0));
        check.due("not sent to the other crew", 0, office.freedByAll(1));
        check.due("the crew has not yet", Given.NONE, office.has(0, 0));
        office.send(3, 3);
        check.due("both are freed", 2, office.freedByAll(0));
        check.due("that of the other crew", 1, office.freedByAll(1));
        office.receive(1, 0);
        check.due("those that could be already", 2, office.freedByAll(0));
        office.start(0);
        check.due("a running one is not told", 1, office.freedByAll(0));
        office.query(0, 0, 0, 0, 0);
        check.due("a cloud stays", 0, office.freedByAll(0));
        office.answer(0, false);
        check.due("a stopped one is told", 2, office.freedByAll(0));
        office.start(0);
        Given.days(office, 5);
        check.due("a done one is not told", 1, office.freedByAll(0));
    }

    private static void freedByAllOfManySendings() {
        check.promise("promise 30");
        DraftsmanOffice office = Given.issuedSheets(2);
        office.pack(3, 3, 5);
        office.send(8, 1);
        Given.reissue(office, 0);
        check.due("an earlier revision alone", 0, office.freedByAll(3));
        office.send(8, 1);
        check.due("a sheet is missing", 0, office.freedByAll(3));
        office.send(8, 2);
        long before = office.digest();
        check.due("all together", 1, office.freedByAll(3));
        check.due("the digest stays", before, office.digest());
        check.due("nothing is received", 2, office.receive(1, 3) + office.receive(2, 3));
    }

    private static void digestOfNothing() {
        check.promise("promise 31");
        DraftsmanOffice office = new DraftsmanOffice();
        long d = 58107;
        for (int i = 0; i < 13 + 8; i++) {
            d = d * 31;
        }
        check.due("of a new office", d, office.digest());
        check.due("once more", d, office.digest());
    }

    private static void digest() {
        check.promise("promise 31");
        DraftsmanOffice office = Given.issuedSheets(3);
        Given.hand(office, 0, 7);
        Given.startNew(office, 0, 1, 5);
        Given.startNew(office, 0, 2, 9);
        office.query(0, 0, 0, 0, 0);
        office.send(12, 3);
        office.revise(1);
        office.refer(1, 0, 0);
        office.check(1);
        Given.days(office, 7);
        check.due("by the calls", byTheCalls(office), office.digest());
        office.revise(2);
        office.check(2);
        check.due("by the calls then", byTheCalls(office), office.digest());
        office.answer(0, true);
        office.pack(2, 1, 3);
        check.due("the promised query is freed", 1, office.freedBy(0));
        office.query(1, 0, 0, 0, 0);
        office.answer(1, false);
        office.place(2, 5, 5, 9, 9);
        check.due("one is freed by all", 1, office.freedByAll(2));
        check.due("by the calls at last", byTheCalls(office), office.digest());
    }

    private static long byTheCalls(DraftsmanOffice office) {
        long d = 58107;
        for (int what = 0; what <= 12; what++) {
            d = d * 31 + office.many(what);
        }
        for (int sheet = 0; sheet < office.many(0); sheet++) {
            for (int what = 0; what <= 9; what++) {
                d = d * 31 + office.ofSheet(sheet, what);
            }
            for (int revision = 0; revision < office.ofSheet(sheet, 1); revision++) {
                d = d * 31 + office.status(sheet, revision);
            }
            for (int crew = 0; crew <= 3; crew++) {
                d = d * 31 + office.has(crew, sheet);
            }
            d = d * 31 + office.stoppedBy(sheet);
        }
        for (int query = 0; query < office.many(4); query++) {
            d = (d * 31 + office.ofQuery(query)) * 31 + office.freedBy(query);
        }
        for (int crew = 0; crew <= 3; crew++) {
            d = (d * 31 + office.owes(crew)) * 31 + office.freedByAll(crew);
        }
        for (int pack = 0; pack < office.many(7); pack++) {
            for (int what = 0; what <= 6; what++) {
                d = d * 31 + office.ofPack(pack, what);
            }
        }
        return d;
    }
}
