/** The bounds that promises 11 to 14 name: each method stands for one sentence. */
public final class SendingsBoundsTest {
    private static final Bounds bounds = new Bounds("SendingsBoundsTest");
    private static final int MIN = Bounds.MIN;
    private static final int MAX = Bounds.MAX;

    public static void main(String[] args) {
        sendCrews();
        sendSheetsBelowOne();
        sendSheetThatIsNot();
        sendTwentieth();
        sendNotIssued();
        sendBoth();
        receiveNoSuchSending();
        receiveNoSuchCrew();
        receiveNotSent();
        receiveTwice();
        receiveCounts();
        hasNoSuch();
        hasNone();
        owesNoSuchCrew();
        owesMoreThanFiveDays();
        owesNotReceived();
        owesCounts();
        bounds.end();
    }

    private static void sendCrews() {
        bounds.sentence("promise 11: IllegalArgumentException if crews is not 1 to 15");
        bounds.noArguments("crews", new int[] {-1, 0, 16, 17, MIN, MAX}, Given::busy,
                (office, crews) -> office.send(crews, 1));
        for (int i = 1; i <= 15; i++) {
            int crews = i;
            bounds.taken("crews " + crews, Given.BUSY_SENDINGS, Given::busy, office -> office.send(crews, 1));
        }
    }

    private static void sendSheetsBelowOne() {
        bounds.sentence("promise 11: IllegalArgumentException if sheets is less than 1");
        bounds.noArguments("sheets", new int[] {0, -1, -2, MIN}, Given::busy,
                (office, sheets) -> office.send(1, sheets));
        bounds.noArguments("sheets", new int[] {0, -1}, () -> Given.issuedSheets(10),
                (office, sheets) -> office.send(1, sheets));
        bounds.taken("sheets 1", 0, () -> Given.issuedSheets(10), office -> office.send(1, 1));
    }

    private static void sendSheetThatIsNot() {
        bounds.sentence("promise 11: IllegalArgumentException if sheets has a SHEET that there is not");
        bounds.noArguments("of 2 sheets:", new int[] {4, 5, 7, 8, 1 << 30, MAX}, () -> Given.issuedSheets(2),
                (office, sheets) -> office.send(1, sheets));
        bounds.noArguments("of 10 sheets:", new int[] {1024, 1025, 2047, 1 << 30, MAX}, () -> Given.issuedSheets(10),
                (office, sheets) -> office.send(1, sheets));
        bounds.noArguments("of no sheets:", new int[] {1, 2, 1023}, DraftsmanOffice::new,
                (office, sheets) -> office.send(1, sheets));
        bounds.taken("the last of 2", 0, () -> Given.issuedSheets(2), office -> office.send(1, 2));
        bounds.taken("all of 2", 0, () -> Given.issuedSheets(2), office -> office.send(1, 3));
        bounds.taken("the last of 10", 0, () -> Given.issuedSheets(10), office -> office.send(1, 512));
        bounds.taken("all of 10", 0, () -> Given.issuedSheets(10), office -> office.send(1, 1023));
    }

    private static void sendTwentieth() {
        bounds.sentence("promise 11: IllegalStateException if there are 20");
        bounds.taken("the 20th", 19, () -> sent(19), office -> office.send(15, 1));
        bounds.noState("the 21st", () -> sent(20), office -> office.send(15, 1));
        bounds.noState("the 21st, all full", Given::full, office -> office.send(1, 1));
    }

    /** Sendings of one sheet to the crew 3. */
    private static DraftsmanOffice sent(int count) {
        DraftsmanOffice office = Given.issuedSheets(1);
        for (int i = 0; i < count; i++) {
            office.send(8, 1);
        }
        return office;
    }

    private static void sendNotIssued() {
        bounds.sentence("promise 11: IllegalStateException if one of the SHEETS has no ISSUED REVISION");
        int issued = 1 << Given.ISSUED | 1 << Given.DRAFT_BESIDE_ISSUED | 1 << Given.CHECKED_BESIDE_ISSUED;
        bounds.taken("all of them have one", 2, Given::busy, office -> office.send(1, issued));
        bounds.noState("a draft", Given::busy, office -> office.send(1, 1 << Given.NEW));
        bounds.noState("a checked one", Given::busy, office -> office.send(1, 1 << Given.CHECKED_WITH_BROKEN));
        bounds.noState("one of them a draft", Given::busy, office -> office.send(1, issued | 1 << Given.NEW));
        bounds.noState("all", Given::busy, office -> office.send(1, 31));
        bounds.noState("the first of 10", () -> issuedBut(0), office -> office.send(1, 1023));
        bounds.noState("the last of 10", () -> issuedBut(9), office -> office.send(1, 1023));
        bounds.taken("without the last", 0, () -> issuedBut(9), office -> office.send(1, 511));
        bounds.taken("without the first", 0, () -> issuedBut(0), office -> office.send(1, 1022));
    }

    private static DraftsmanOffice issuedBut(int draft) {
        DraftsmanOffice office = Given.sheets(10);
        for (int i = 0; i < 10; i++) {
            if (i != draft) {
                Given.issue(office, i);
            }
        }
        return office;
    }

    private static void sendBoth() {
        bounds.sentence("promise 11: several exceptions apply");
        bounds.noArgument("no crews, no sheets", Given::busy, office -> office.send(0, 0));
        bounds.noArgument("no crews, not issued", Given::busy, office -> office.send(16, 1 << Given.NEW));
        bounds.noArgument("no crews, 20 there", Given::full, office -> office.send(0, 1));
        bounds.noArgument("no sheets, 20 there", Given::full, office -> office.send(1, 0));
        bounds.noArgument("no such sheet, not issued", Given::busy, office -> office.send(1, 32 | 1 << Given.NEW));
        bounds.noArgument("no such sheet, 20 there", Given::full, office -> office.send(1, 1024));
        bounds.noArgument("no crews, not issued, 20 there", Given::full, office -> office.send(-1, 1 << Given.NEW));
        bounds.noState("not issued, 20 there", Given::full, office -> office.send(1, 1 << Given.NEW));
    }

    private static void receiveNoSuchSending() {
        bounds.sentence("promise 12: IndexOutOfBoundsException if there is no such SENDING");
        bounds.noSuchSending("receive", (office, sending) -> office.receive(sending, 3));
        bounds.taken("the first", 1, () -> sent(20), office -> office.receive(0, 3));
        bounds.taken("the last", 1, () -> sent(20), office -> office.receive(19, 3));
    }

    private static void receiveNoSuchCrew() {
        bounds.sentence("promise 12: IndexOutOfBoundsException if there is no such CREW");
        bounds.noSuchCrew("receive", (office, crew) -> office.receive(0, crew));
        bounds.noSuchCrew("receive of no sending", (office, crew) -> office.receive(2, crew));
        for (int i = 0; i <= 3; i++) {
            int crew = i;
            bounds.taken("by the crew " + crew, 1, SendingsBoundsTest::sentToAll, office -> office.receive(0, crew));
        }
    }

    private static DraftsmanOffice sentToAll() {
        DraftsmanOffice office = Given.issuedSheets(1);
        office.send(15, 1);
        return office;
    }

    private static void receiveNotSent() {
        bounds.sentence("promise 12: IllegalStateException if it was not sent to it");
        for (int i = 0; i <= 3; i++) {
            int crew = i;
            bounds.noState("sent to all but the crew " + crew, () -> sentTo(15 & ~(1 << crew)),
                    office -> office.receive(0, crew));
            bounds.taken("sent to the crew " + crew + " alone", 1, () -> sentTo(1 << crew),
                    office -> office.receive(0, crew));
        }
        bounds.noState("another one was sent to it", Given::busy, office -> office.receive(1, 1));
    }

    private static DraftsmanOffice sentTo(int crews) {
        DraftsmanOffice office = Given.issuedSheets(1);
        office.send(crews, 1);
        return office;
    }

    private static void receiveTwice() {
        bounds.sentence("promise 12: IllegalStateException if it did RECEIVE it");
        bounds.noState("received", Given::busy, office -> office.receive(0, 0));
        bounds.taken("received by another one alone", 3, Given::busy, office -> office.receive(0, 1));
        bounds.noState("received, with nothing new", SendingsBoundsTest::receivedTwo, office -> office.receive(1, 0));
    }

    private static DraftsmanOffice receivedTwo() {
        DraftsmanOffice office = sentTo(1);
        office.send(1, 1);
        office.receive(0, 0);
        office.receive(1, 0);
        return office;
    }

    private static void receiveCounts() {
        bounds.sentence("promise 12: returns how many REVISIONS it HAS by that which it had not");
        bounds.taken("all of 10", 10, SendingsBoundsTest::tenTwice, office -> office.receive(0, 2));
        bounds.taken("none of 10 again", 0, SendingsBoundsTest::tenTwice, office -> {
            office.receive(0, 2);
            return office.receive(1, 2);
        });
        bounds.taken("the one that is later", 1, SendingsBoundsTest::tenTwice, office -> {
            office.receive(0, 2);
            Given.reissue(office, 9);
            return office.receive(office.send(4, 1023), 2);
        });
        bounds.taken("those that it had not", 9, SendingsBoundsTest::tenTwice, office -> {
            Given.hand(office, 2, 1);
            return office.receive(0, 2);
        });
    }

    private static DraftsmanOffice tenTwice() {
        DraftsmanOffice office = Given.issuedSheets(10);
        office.send(4, 1023);
        office.send(4, 1023);
        return office;
    }

    private static void hasNoSuch() {
        bounds.sentence("promise 13: IndexOutOfBoundsException if there is no such CREW, or SHEET");
        bounds.noSuchCrew("has", (office, crew) -> office.has(crew, 0));
        bounds.noSuchCrew("has no sheet", (office, crew) -> office.has(crew, 5));
        bounds.noSuchSheet("has", (office, sheet) -> office.has(0, sheet));
    }

    private static void hasNone() {
        bounds.sentence("promise 13: the REVISION that it HAS; NONE without one");
        for (int i = 0; i <= 3; i++) {
            int crew = i;
            bounds.taken("at first, the crew " + crew, Given.NONE, () -> Given.issuedSheets(10),
                    office -> office.has(crew, 9));
            bounds.taken("the first revision, the crew " + crew, 0, () -> handed(crew), office -> office.has(crew, 9));
        }
        bounds.taken("a draft", Given.NONE, Given::busy, office -> office.has(0, Given.NEW));
        bounds.taken("the sixth revision", 5, () -> {
            DraftsmanOffice office = Given.sheets(1);
            Given.sixRevisions(office, 0);
            Given.hand(office, 3, 1);
            return office;
        }, office -> office.has(3, 0));
    }

    private static DraftsmanOffice handed(int crew) {
        DraftsmanOffice office = Given.issuedSheets(10);
        Given.hand(office, crew, 512);
        return office;
    }

    private static void owesNoSuchCrew() {
        bounds.sentence("promise 14: IndexOutOfBoundsException if there is no such CREW");
        bounds.noSuchCrew("owes", DraftsmanOffice::owes);
        for (int i = 0; i <= 3; i++) {
            int crew = i;
            bounds.taken("the crew " + crew + ", no sendings", 0, DraftsmanOffice::new, office -> office.owes(crew));
        }
    }

    private static void owesMoreThanFiveDays() {
        bounds.sentence("promise 14 and Terms 3: sent more than 5 DAYS ago");
        for (int i = 0; i <= 7; i++) {
            int days = i;
            bounds.taken(days + " days ago", days > 5 ? 1 : 0, SendingsBoundsTest::sentToAll, office -> {
                Given.days(office, days);
                return office.owes(3);
            });
            bounds.taken(days + " days ago, sent late", days > 5 ? 1 : 0, SendingsBoundsTest::sentOnDaySeven,
                    office -> {
                Given.days(office, days);
                return office.owes(3);
            });
        }
    }

    private static DraftsmanOffice sentOnDaySeven() {
        DraftsmanOffice office = Given.issuedSheets(1);
        Given.days(office, 7);
        office.send(15, 1);
        return office;
    }

    private static void owesNotReceived() {
        bounds.sentence("promise 14 and Terms 3: sent to it, and that it did not RECEIVE");
        bounds.taken("received in time", 0, SendingsBoundsTest::sentToAll, office -> {
            office.receive(0, 2);
            Given.days(office, 6);
            return office.owes(2);
        });
        bounds.taken("received late", 0, SendingsBoundsTest::sentToAll, office -> {
            Given.days(office, 6);
            office.receive(0, 2);
            return office.owes(2);
        });
        bounds.taken("received by another one", 1, SendingsBoundsTest::sentToAll, office -> {
            office.receive(0, 1);
            Given.days(office, 6);
            return office.owes(2);
        });
        bounds.taken("not sent to it", 0, () -> sentTo(11), office -> {
            Given.days(office, 6);
            return office.owes(2);
        });
        bounds.taken("a later one received with the same revision", 1, SendingsBoundsTest::sentToAll, office -> {
            Given.hand(office, 2, 1);
            Given.days(office, 6);
            return office.owes(2);
        });
    }

    private static void owesCounts() {
        bounds.sentence("promise 14: how many SENDINGS it OWES");
        DraftsmanOffice office = sent(20);
        Given.days(office, 5);
        bounds.due("none of 20", 0, office.owes(3));
        office.day();
        bounds.due("all 20", 20, office.owes(3));
        office.receive(19, 3);
        bounds.due("all but the last", 19, office.owes(3));
        bounds.due("another crew", 0, office.owes(2));
    }
}
