/** Promises 11 to 14: sendings, and what crews have and owe. */
public final class SendingsTest {
    private static final Check check = new Check("SendingsTest");

    public static void main(String[] args) {
        send();
        sendRefuses();
        receive();
        receiveLater();
        has();
        owes();
        check.end();
    }

    private static void send() {
        check.promise("promise 11");
        DraftsmanOffice office = Given.issuedSheets(10);
        check.due("the first", 0, office.send(1, 1));
        check.due("to all, of all", 1, office.send(15, 1023));
        for (int i = 2; i < 20; i++) {
            check.due("send()", i, office.send(8, 512));
        }
        check.due("sendings", 20, office.many(3));
        check.noState(office, "the 21st", () -> office.send(1, 1));
        check.noArgument(office, "the 21st, to none", () -> office.send(0, 1));
        check.noArgument(office, "the 21st, of none", () -> office.send(1, 0));
        Given.reissue(office, 0);
        office.receive(1, 2);
        check.due("what was issued as it was sent", 0, office.has(2, 0));
        check.due("of all", 0, office.has(2, 9));
    }

    private static void sendRefuses() {
        check.promise("promise 11");
        DraftsmanOffice office = Given.issuedSheets(2);
        office.sheet(0);
        check.noArgument(office, "crews -1", () -> office.send(-1, 1));
        check.noArgument(office, "crews 0", () -> office.send(0, 1));
        check.noArgument(office, "crews 16", () -> office.send(16, 1));
        check.noArgument(office, "sheets 0", () -> office.send(1, 0));
        check.noArgument(office, "sheets -1", () -> office.send(1, -1));
        check.noArgument(office, "sheets MIN", () -> office.send(1, Integer.MIN_VALUE));
        check.noArgument(office, "sheets 8", () -> office.send(1, 8));
        check.noArgument(office, "sheets 9", () -> office.send(1, 9));
        check.noArgument(office, "sheets MAX", () -> office.send(1, Integer.MAX_VALUE));
        check.noState(office, "a sheet not issued", () -> office.send(1, 4));
        check.noState(office, "one of the sheets not issued", () -> office.send(1, 7));
        office.check(2);
        check.noState(office, "a sheet that is checked", () -> office.send(1, 4));
        check.noArgument(office, "a sheet not issued, to none", () -> office.send(0, 4));
        check.due("those that are issued", 0, office.send(1, 3));
        office.revise(0);
        check.due("an issued one beside a draft", 1, office.send(1, 1));
        DraftsmanOffice late = Given.sheets(2);
        Given.issue(late, 1);
        check.noState(late, "the first of the sheets not issued", () -> late.send(1, 3));
        DraftsmanOffice empty = new DraftsmanOffice();
        check.noArgument(empty, "without sheets", () -> empty.send(1, 1));
    }

    private static void receive() {
        check.promise("promise 12");
        DraftsmanOffice office = Given.issuedSheets(3);
        office.send(5, 3);
        check.noSuch(office, "receive(-1, 0)", () -> office.receive(-1, 0));
        check.noSuch(office, "receive(1, 0)", () -> office.receive(1, 0));
        check.noSuch(office, "receive(0, -1)", () -> office.receive(0, -1));
        check.noSuch(office, "receive(0, 4)", () -> office.receive(0, 4));
        check.noState(office, "not sent to it", () -> office.receive(0, 1));
        check.due("two sheets", 2, office.receive(0, 0));
        check.noState(office, "received already", () -> office.receive(0, 0));
        check.due("another crew has none by that", Given.NONE, office.has(2, 0));
        check.due("by another crew", 2, office.receive(0, 2));
        office.send(1, 7);
        check.due("only what it had not", 1, office.receive(1, 0));
        check.noSuch(office, "receive(0, 32)", () -> office.receive(0, 32));
    }

    private static void receiveLater() {
        check.promise("promise 12");
        DraftsmanOffice office = Given.issuedSheets(2);
        office.send(1, 3);
        Given.reissue(office, 0);
        office.send(1, 3);
        check.due("the later sending first", 2, office.receive(1, 0));
        check.due("the later revision", 1, office.has(0, 0));
        check.due("the earlier sending then", 0, office.receive(0, 0));
        check.due("the later revision stays", 1, office.has(0, 0));
        Given.reissue(office, 0);
        office.send(1, 3);
        check.due("one of them is later", 1, office.receive(2, 0));
        check.due("that one", 2, office.has(0, 0));
        check.due("the other", 0, office.has(0, 1));
    }

    private static void has() {
        check.promise("promise 13");
        DraftsmanOffice office = Given.issuedSheets(2);
        check.noSuch(office, "has(-1, 0)", () -> office.has(-1, 0));
        check.noSuch(office, "has(4, 0)", () -> office.has(4, 0));
        check.noSuch(office, "has(0, -1)", () -> office.has(0, -1));
        check.noSuch(office, "has(0, 2)", () -> office.has(0, 2));
        for (int crew = 0; crew < 4; crew++) {
            check.due("none at first", Given.NONE, office.has(crew, 0));
        }
        office.send(8, 2);
        check.due("none as it is sent", Given.NONE, office.has(3, 1));
        office.receive(0, 3);
        check.due("as it is received", 0, office.has(3, 1));
        check.due("another sheet", Given.NONE, office.has(3, 0));
        check.due("another crew", Given.NONE, office.has(2, 1));
        office.sheet(0);
        check.due("a new sheet", Given.NONE, office.has(3, 2));
    }

    private static void owes() {
        check.promise("promise 14");
        DraftsmanOffice office = Given.issuedSheets(1);
        check.noSuch(office, "owes(-1)", () -> office.owes(-1));
        check.noSuch(office, "owes(4)", () -> office.owes(4));
        office.day();
        office.send(3, 1);
        Given.days(office, 5);
        check.due("5 days ago", 0, office.owes(0));
        office.send(1, 1);
        office.day();
        check.due("6 days ago", 1, office.owes(0));
        check.due("another crew", 1, office.owes(1));
        check.due("not sent to it", 0, office.owes(2));
        Given.days(office, 5);
        check.due("two of them", 2, office.owes(0));
        office.receive(0, 0);
        check.due("received late", 1, office.owes(0));
        check.due("not received by the other", 1, office.owes(1));
        office.receive(1, 0);
        check.due("all received", 0, office.owes(0));
    }
}
