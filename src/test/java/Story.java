import java.util.ArrayList;
import java.util.List;

/** What the calls tell of an office now, and what they tell as it goes on. */
final class Story {
    private final DraftsmanOffice office;
    private final List<String> lines = new ArrayList<>();

    private Story(DraftsmanOffice office) {
        this.office = office;
    }

    /** Asks what can be asked without changing anything; at most some hundred calls. */
    static List<String> now(DraftsmanOffice office) {
        Story story = new Story(office);
        for (int what = 0; what <= 12; what++) {
            story.tell("many(" + what + ")", office.many(what));
        }
        story.lines.add("meanRevisions() " + office.meanRevisions());
        for (int reference = 0; reference < office.many(1); reference++) {
            story.tell("holds(" + reference + ")", Check.number(office.holds(reference)));
        }
        int sheets = office.many(0);
        for (int one = 0; one < sheets; one++) {
            story.tell("clouds(" + one + ", 0, 0)", office.clouds(one, 0, 0));
            for (int other = one + 1; other < sheets; other++) {
                story.tell("clash(" + one + ", " + other + ")", office.clash(one, other));
            }
        }
        story.tell("digest()", office.digest());
        return story.lines;
    }

    /**
     * Lets the office go on, so that what no call tells yet shows: what a draft has, which crews a sending waits for
     * and since when, where a package is, who is excused.
     */
    static List<String> later(DraftsmanOffice office) {
        Story story = new Story(office);
        int sheets = office.many(0);
        story.issueAll(sheets);
        story.clouds(sheets);
        story.receiveAll(office.many(3));
        story.startAll(office.many(7));
        story.days();
        story.answerAll(office.many(4));
        story.issueAll(sheets);
        story.oneMoreOfEach();
        return story.lines;
    }

    private void tell(String call, long answer) {
        lines.add(call + " answered " + answer);
    }

    private void call(String name, Check.Call made) {
        lines.add(name + " " + Check.outcome(made));
    }

    private void issueAll(int sheets) {
        for (int i = 0; i < sheets; i++) {
            int sheet = i;
            call("revise(" + sheet + ")", () -> office.revise(sheet));
            call("check(" + sheet + ")", () -> office.check(sheet));
            call("issue(" + sheet + ")", () -> office.issue(sheet));
        }
        tell("digest()", office.digest());
    }

    private void clouds(int sheets) {
        for (int i = 0; i < sheets; i++) {
            int sheet = i;
            call("clouds(" + sheet + ", 4, 4)", () -> office.clouds(sheet, 4, 4));
            call("clouds(" + sheet + ", 17, 17)", () -> office.clouds(sheet, 17, 17));
        }
    }

    /** The crews in turn, and from the last one back: else a refused one could hide what an earlier one did. */
    private void receiveAll(int sendings) {
        for (int i = 0; i < sendings; i++) {
            for (int j = 0; j < 4; j++) {
                int sending = i;
                int crew = i % 2 == 0 ? j : 3 - j;
                call("receive(" + sending + ", " + crew + ")", () -> office.receive(sending, crew));
            }
        }
        tell("digest()", office.digest());
    }

    private void startAll(int packages) {
        for (int i = 0; i < packages; i++) {
            int pack = i;
            call("start(" + pack + ")", () -> office.start(pack));
        }
    }

    private void days() {
        for (int i = 0; i < 6; i++) {
            call("day()", office::day);
            tell("digest()", office.digest());
        }
    }

    private void answerAll(int queries) {
        for (int i = 0; i < queries; i++) {
            int query = i;
            call("answer(" + query + ")", () -> office.answer(query, query % 2 == 0));
        }
        tell("digest()", office.digest());
    }

    private void oneMoreOfEach() {
        call("sheet(1)", () -> office.sheet(1));
        int sheet = office.many(0) - 1;
        call("refer()", () -> office.refer(sheet, 0, 0));
        call("issue()", () -> Given.issue(office, sheet));
        call("send(15, 1)", () -> office.send(15, 1));
        call("query(0)", () -> office.query(0, 19, 19, 19, 19));
        call("pack(0, 1, 9)", () -> office.pack(0, 1, 9));
        tell("digest()", office.digest());
    }
}
