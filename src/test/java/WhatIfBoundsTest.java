import java.math.BigInteger;
import java.util.ArrayList;
import java.util.List;

/** The bounds that promises 28 to 31 name: each method stands for one sentence. */
public final class WhatIfBoundsTest {
    private static final Bounds bounds = new Bounds("WhatIfBoundsTest");

    public static void main(String[] args) {
        stoppedByNoSuchSheet();
        stoppedByNone();
        stoppedByAsIssue();
        stoppedByCounts();
        freedByNoSuchQuery();
        freedByCounts();
        freedByStoppedAlone();
        freedByThatCannotBe();
        freedByClosed();
        freedByAllNoSuchCrew();
        freedByAllCounts();
        freedByAllStates();
        freedByAllSent();
        askingChangesNothing();
        digestOfNone();
        digestWrapsAround();
        digestOfNegative();
        bounds.end();
    }

    private static void stoppedByNoSuchSheet() {
        bounds.sentence("promise 28: IndexOutOfBoundsException if there is no such SHEET");
        bounds.noSuchSheet("stoppedBy", DraftsmanOffice::stoppedBy);
        bounds.taken("the last", Given.NONE, Given::full, office -> office.stoppedBy(9));
    }

    private static void stoppedByNone() {
        bounds.sentence("promise 28: NONE if issue() would throw");
        bounds.taken("a new draft", Given.NONE, () -> Given.sheets(1), office -> office.stoppedBy(0));
        bounds.taken("a draft beside an issued one", Given.NONE, Given::busy,
                office -> office.stoppedBy(Given.DRAFT_BESIDE_ISSUED));
        bounds.taken("an issued one", Given.NONE, Given::busy, office -> office.stoppedBy(Given.ISSUED));
        bounds.taken("a checked one with a broken reference", Given.NONE, Given::busy,
                office -> office.stoppedBy(Given.CHECKED_WITH_BROKEN));
        bounds.taken("a draft that work goes on by", Given.NONE, () -> running(8), office -> {
            office.revise(0);
            return office.stoppedBy(0);
        });
        bounds.taken("a new checked one", 0, () -> Given.sheets(1), office -> {
            office.check(0);
            return office.stoppedBy(0);
        });
    }

    /** Packages of five days that run by one sheet. */
    private static DraftsmanOffice running(int count) {
        DraftsmanOffice office = Given.handedSheet();
        for (int i = 0; i < count; i++) {
            Given.startNew(office, 0, 1, 5);
        }
        return office;
    }

    /** What is told is what the call would answer then, sheet by sheet. */
    private static void stoppedByAsIssue() {
        bounds.sentence("promise 28: how many PACKAGES would be STOPPED, if its last REVISION was ISSUED");
        for (int i = 0; i < 10; i++) {
            int sheet = i;
            long busy = sheet < Given.BUSY_SHEETS ? issued(Given.busy(), sheet) : Given.NONE;
            if (sheet < Given.BUSY_SHEETS) {
                bounds.taken("busy, " + sheet, busy, Given::busy, office -> office.stoppedBy(sheet));
            }
            bounds.taken("full, " + sheet, issued(Given.full(), sheet), Given::full, office -> office.stoppedBy(sheet));
        }
    }

    private static long issued(DraftsmanOffice office, int sheet) {
        try {
            return office.issue(sheet);
        } catch (IllegalStateException e) {
            return Given.NONE;
        }
    }

    private static void stoppedByCounts() {
        bounds.sentence("promise 28: none, one, and all 8 would be STOPPED");
        for (int i = 0; i <= 8; i++) {
            int count = i;
            bounds.taken(count + " that run", count, () -> running(count), WhatIfBoundsTest::stoppedByReissue);
        }
        bounds.taken("8 that wait", 0, Given::handedSheet, office -> {
            for (int i = 0; i < 8; i++) {
                office.pack(0, 1, 5);
            }
            return stoppedByReissue(office);
        });
        bounds.taken("8 that are stopped", 0, () -> running(8), office -> {
            office.query(0, 0, 0, 0, 0);
            return stoppedByReissue(office);
        });
        bounds.taken("8 that are done", 0, () -> running(8), office -> {
            Given.days(office, 5);
            return stoppedByReissue(office);
        });
        bounds.taken("8 by another sheet", 0, () -> Given.handedSheets(2), office -> {
            for (int i = 0; i < 8; i++) {
                Given.startNew(office, 0, 2, 5);
            }
            return stoppedByReissue(office);
        });
    }

    private static long stoppedByReissue(DraftsmanOffice office) {
        office.revise(0);
        office.check(0);
        return office.stoppedBy(0);
    }

    private static void freedByNoSuchQuery() {
        bounds.sentence("promise 29: IndexOutOfBoundsException if there is no such QUERY");
        bounds.noSuchQuery("freedBy", DraftsmanOffice::freedBy);
        bounds.taken("the first", 1, Given::full, office -> office.freedBy(0));
        bounds.taken("the last", 0, Given::full, office -> office.freedBy(19));
    }

    private static void freedByCounts() {
        bounds.sentence("promise 29: none, one, and all 8 could be RUNNING");
        for (int i = 0; i <= 8; i++) {
            int count = i;
            bounds.taken(count + " under one cloud", count, () -> running(count), WhatIfBoundsTest::freedByOneQuery);
        }
        bounds.taken("8 under two clouds", 0, () -> running(8), office -> {
            office.query(0, 0, 0, 0, 0);
            return freedByOneQuery(office);
        });
    }

    private static long freedByOneQuery(DraftsmanOffice office) {
        return office.freedBy(office.query(0, 0, 0, 0, 0));
    }

    private static void freedByStoppedAlone() {
        bounds.sentence("promise 29: PACKAGES that are STOPPED");
        bounds.taken("a waiting one is not told", 0, Given::handedSheet, office -> {
            office.pack(0, 1, 5);
            return freedByOneQuery(office);
        });
        bounds.taken("a done one is not told", 0, () -> running(1), office -> {
            Given.days(office, 5);
            return freedByOneQuery(office);
        });
        bounds.taken("a stopped one beside both", 1, () -> running(1), office -> {
            Given.days(office, 5);
            office.pack(0, 1, 5);
            Given.startNew(office, 0, 1, 5);
            return freedByOneQuery(office);
        });
    }

    private static void freedByThatCannotBe() {
        bounds.sentence("promise 29: that cannot be as it is");
        bounds.taken("a stopped one that could run beside the cloud", 0, () -> running(1), office -> {
            int query = office.query(0, 0, 0, 4, 4);
            office.place(0, 5, 5, 9, 9);
            return office.freedBy(query);
        });
        bounds.taken("the cloud touches it", 1, () -> running(1), office -> {
            int query = office.query(0, 0, 0, 4, 4);
            office.place(0, 4, 4, 9, 9);
            return office.freedBy(query);
        });
        bounds.taken("it could not run for its marks", 0, () -> running(1), office -> {
            int query = office.query(0, 0, 0, 4, 4);
            for (int i = 1; i <= 3; i++) {
                office.pack(0, 1, 1);
                office.place(i, 9, 9, 9, 9);
                office.start(i);
            }
            office.day();
            return office.freedBy(query);
        });
    }

    private static void freedByClosed() {
        bounds.sentence("promise 29: if it was CLOSED");
        bounds.taken("an open one", 1, () -> running(1), WhatIfBoundsTest::freedByOneQuery);
        bounds.taken("a promised one", 1, () -> running(1), office -> {
            office.query(0, 0, 0, 0, 0);
            office.answer(0, true);
            return office.freedBy(0);
        });
        bounds.taken("a closed one", 0, () -> running(1), office -> {
            office.query(0, 0, 0, 0, 0);
            office.answer(0, false);
            return office.freedBy(0);
        });
    }

    private static void freedByAllNoSuchCrew() {
        bounds.sentence("promise 30: IndexOutOfBoundsException if there is no such CREW");
        bounds.noSuchCrew("freedByAll", DraftsmanOffice::freedByAll);
        for (int i = 0; i <= 3; i++) {
            int crew = i;
            bounds.taken("the crew " + crew + " of an empty office", 0, DraftsmanOffice::new,
                    office -> office.freedByAll(crew));
        }
    }

    private static void freedByAllCounts() {
        bounds.sentence("promise 30: none, one, and all 8 of its PACKAGES");
        for (int i = 0; i <= 8; i++) {
            for (int j = 0; j <= 3; j++) {
                int count = i;
                int crew = j;
                bounds.taken(count + " of the crew " + crew, count, () -> waiting(count, crew), office -> {
                    office.send(1 << crew, 1);
                    return office.freedByAll(crew);
                });
                bounds.taken("those of another crew", 0, () -> waiting(count, crew), office -> {
                    office.send(15, 1);
                    return office.freedByAll(crew ^ 1);
                });
            }
        }
    }

    private static DraftsmanOffice waiting(int count, int crew) {
        DraftsmanOffice office = Given.issuedSheets(1);
        for (int i = 0; i < count; i++) {
            office.pack(crew, 1, 5);
        }
        return office;
    }

    private static void freedByAllStates() {
        bounds.sentence("promise 30: WAITING or STOPPED (also those that could be already)");
        bounds.taken("8 that wait and could be already", 8, () -> waiting(8, 0), office -> {
            Given.hand(office, 0, 1);
            return office.freedByAll(0);
        });
        bounds.taken("8 that run", 0, () -> running(8), office -> office.freedByAll(0));
        bounds.taken("8 that are stopped and could be already", 8, () -> running(8), office -> {
            office.query(0, 0, 0, 0, 0);
            office.answer(0, false);
            return office.freedByAll(0);
        });
        bounds.taken("8 that are stopped under a cloud", 0, () -> running(8), office -> {
            office.query(0, 0, 0, 0, 0);
            return office.freedByAll(0);
        });
        bounds.taken("8 that are stopped by a new revision", 8, () -> running(8), office -> {
            Given.reissue(office, 0);
            office.send(1, 1);
            return office.freedByAll(0);
        });
        bounds.taken("2 that are done", 0, () -> running(2), office -> {
            Given.days(office, 5);
            return office.freedByAll(0);
        });
    }

    private static void freedByAllSent() {
        bounds.sentence("promise 30: if it RECEIVED all that was sent to it");
        bounds.taken("nothing was sent", 0, () -> waiting(1, 2), office -> office.freedByAll(2));
        bounds.taken("sent to all others", 0, () -> waiting(1, 2), office -> {
            office.send(11, 1);
            return office.freedByAll(2);
        });
        bounds.taken("an earlier revision was sent", 0, () -> waiting(1, 2), office -> {
            office.send(4, 1);
            Given.reissue(office, 0);
            return office.freedByAll(2);
        });
        bounds.taken("the later one first, the earlier one last", 1, () -> waiting(1, 2), office -> {
            office.send(4, 1);
            Given.reissue(office, 0);
            office.send(4, 1);
            return office.freedByAll(2);
        });
        bounds.taken("10 sheets by 20 sendings", 1, () -> Given.issuedSheets(10), office -> {
            office.pack(2, 1023, 5);
            for (int i = 0; i < 20; i++) {
                office.send(15, 1 << i % 10);
            }
            return office.freedByAll(2);
        });
        bounds.taken("9 of 10 sheets", 0, () -> Given.issuedSheets(10), office -> {
            office.pack(2, 1023, 5);
            office.send(15, 511);
            return office.freedByAll(2);
        });
    }

    private static void askingChangesNothing() {
        bounds.sentence("what would be (nothing is changed)");
        for (int i = 0; i < 2; i++) {
            boolean isFull = i == 1;
            DraftsmanOffice asked = isFull ? Given.full() : Given.busy();
            DraftsmanOffice other = isFull ? Given.full() : Given.busy();
            List<String> before = Story.now(asked);
            askWhatWouldBe(asked);
            bounds.due("the same is told after it", 1, Check.number(before.equals(Story.now(asked))));
            DraftsmanOffice goesOn = isFull ? Given.full() : Given.busy();
            askWhatWouldBe(goesOn);
            bounds.due("the same comes later", 1, Check.number(Story.later(other).equals(Story.later(goesOn))));
        }
    }

    private static void askWhatWouldBe(DraftsmanOffice office) {
        for (int sheet = 0; sheet < office.many(0); sheet++) {
            office.stoppedBy(sheet);
        }
        for (int query = 0; query < office.many(4); query++) {
            office.freedBy(query);
        }
        for (int crew = 0; crew <= 3; crew++) {
            office.freedByAll(crew);
        }
        office.digest();
    }

    private static void digestOfNone() {
        bounds.sentence("promise 31: without SHEETS, QUERIES and PACKAGES");
        bounds.due("the digest of a new office", -5720720057053587483L, new DraftsmanOffice().digest());
    }

    /** The whole number of the checksum goes far beyond 64 bits; its lowest 64 are told, as a signed number. */
    private static void digestWrapsAround() {
        bounds.sentence("promise 31: wraps around as a 64-bit integer");
        int negative = 0;
        int positive = 0;
        for (int sheets = 0; sheets <= 10; sheets++) {
            DraftsmanOffice office = Given.issuedSheets(sheets);
            BigInteger whole = whole(office);
            bounds.due("it goes beyond 64 bits", 1, Check.number(whole.bitLength() > 64));
            bounds.due("the digest of " + sheets + " sheets", whole.longValue(), office.digest());
            negative += office.digest() < 0 ? 1 : 0;
            positive += office.digest() > 0 ? 1 : 0;
        }
        bounds.due("some are below 0", 1, Check.number(negative > 0));
        bounds.due("some are above 0", 1, Check.number(positive > 0));
        bounds.due("the digest of a busy office", whole(Given.busy()).longValue(), Given.busy().digest());
        bounds.due("the digest of a full office", whole(Given.full()).longValue(), Given.full().digest());
    }

    private static void digestOfNegative() {
        bounds.sentence("promise 31: d becomes d * 31 + v, for a v of NONE too");
        DraftsmanOffice office = Given.sheets(1);
        bounds.due("has() is NONE", Given.NONE, office.has(0, 0));
        bounds.due("stoppedBy() is NONE", Given.NONE, office.stoppedBy(0));
        bounds.due("the digest of a sheet", whole(office).longValue(), office.digest());
        office.pack(0, 1, 9);
        bounds.due("the digest of a sheet and a package", whole(office).longValue(), office.digest());
    }

    private static BigInteger whole(DraftsmanOffice office) {
        BigInteger d = BigInteger.valueOf(58107);
        for (long v : numbers(office)) {
            d = d.multiply(BigInteger.valueOf(31)).add(BigInteger.valueOf(v));
        }
        return d;
    }

    /** The numbers of the checksum, in their order. */
    private static List<Long> numbers(DraftsmanOffice office) {
        List<Long> numbers = new ArrayList<>();
        for (int what = 0; what <= 12; what++) {
            numbers.add((long) office.many(what));
        }
        int sheets = office.many(0);
        for (int sheet = 0; sheet < sheets; sheet++) {
            numbersOfSheet(office, sheet, numbers);
        }
        int queries = office.many(4);
        for (int query = 0; query < queries; query++) {
            numbers.add((long) office.ofQuery(query));
            numbers.add((long) office.freedBy(query));
        }
        for (int crew = 0; crew <= 3; crew++) {
            numbers.add((long) office.owes(crew));
            numbers.add((long) office.freedByAll(crew));
        }
        int packages = office.many(7);
        for (int pack = 0; pack < packages; pack++) {
            for (int what = 0; what <= 6; what++) {
                numbers.add((long) office.ofPack(pack, what));
            }
        }
        return numbers;
    }

    private static void numbersOfSheet(DraftsmanOffice office, int sheet, List<Long> numbers) {
        int revisions = office.ofSheet(sheet, 1);
        for (int what = 0; what <= 9; what++) {
            numbers.add((long) office.ofSheet(sheet, what));
        }
        for (int revision = 0; revision < revisions; revision++) {
            numbers.add((long) office.status(sheet, revision));
        }
        for (int crew = 0; crew <= 3; crew++) {
            numbers.add((long) office.has(crew, sheet));
        }
        numbers.add((long) office.stoppedBy(sheet));
    }
}
