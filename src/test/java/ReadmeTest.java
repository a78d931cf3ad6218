/** The calls that README.md shows answer what it says behind them. */
public final class ReadmeTest {
    private static final Check check = new Check("ReadmeTest");

    public static void main(String[] args) {
        check.promise("README.md, how to use it");
        DraftsmanOffice office = new DraftsmanOffice();
        check.due("without sheets", 0, office.many(0));
        check.due("the day", 0, office.many(12));
        int plan = office.sheet(0);
        check.due("the plan", 0, plan);
        check.due("its draft", 0, office.status(plan, 0));
        check.due("draw(plan, 0, 0, 9, 4, 1 << 3)", 50, office.draw(plan, 0, 0, 9, 4, 1 << 3));
        check.due("check(plan)", 0, office.check(plan));
        check.due("issue(plan)", 0, office.issue(plan));
        int sending = office.send(1 << 2, 1 << plan);
        check.due("the sending", 0, sending);
        check.due("receive(sending, 2)", 1, office.receive(sending, 2));
        int work = office.pack(2, 1 << plan, 3);
        check.due("the work", 0, work);
        check.due("start(work)", 3, office.start(work));
        check.due("day()", 0, office.day());
        int asked = office.query(plan, 2, 2, 3, 3);
        check.due("the query", 0, asked);
        check.due("ofPack(work, 2)", 2, office.ofPack(work, 2));
        check.due("ofPack(work, 4)", 0, office.ofPack(work, 4));
        check.due("ofPack(work, 5)", 4, office.ofPack(work, 5));
        check.due("freedBy(asked)", 1, office.freedBy(asked));
        check.due("answer(asked, false)", 2, office.answer(asked, false));
        check.due("start(work)", 2, office.start(work));
        check.due("stoppedBy(plan)", -1, office.stoppedBy(plan));
        check.end();
    }
}
