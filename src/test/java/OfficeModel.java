import java.util.ArrayList;
import java.util.HashSet;
import java.util.List;
import java.util.Set;
import java.util.TreeSet;

/**
 * The document told once more, another way than the program: fields one by one in sets, statuses kept as they
 * are said, and what would be is found by doing it to a copy. Arguments are looked at where the document says so.
 */
final class OfficeModel {
    private static final int NONE = -1;

    private static final class Revision {
        Set<Integer> fields = new HashSet<>();
        Set<Integer> details = new TreeSet<>();
        int status = 0;
    }

    private static final class Sheet {
        int trade;
        int marks = 0;
        final List<Revision> revisions = new ArrayList<>();

        Revision last() {
            return revisions.get(revisions.size() - 1);
        }

        int issued() {
            for (int i = 0; i < revisions.size(); i++) {
                if (revisions.get(i).status == 2) {
                    return i;
                }
            }
            return NONE;
        }

        Set<Integer> issuedFields() {
            return issued() == NONE ? new HashSet<>() : revisions.get(issued()).fields;
        }

        Set<Integer> issuedDetails() {
            return issued() == NONE ? new TreeSet<>() : revisions.get(issued()).details;
        }
    }

    private static final class Query {
        int sheet;
        int state = 0;
        Set<Integer> fields;
    }

    private static final class Sending {
        int day;
        final Set<Integer> crews = new TreeSet<>();
        final Set<Integer> receivedBy = new TreeSet<>();
        final List<int[]> sheetAndRevision = new ArrayList<>();
    }

    private static final class Work {
        int crew;
        int set;
        int days;
        int state = 0;
        int stops = 0;
        Set<Integer> fields;
    }

    private final List<Sheet> sheets = new ArrayList<>();
    private final List<int[]> references = new ArrayList<>();
    private final List<Sending> sendings = new ArrayList<>();
    private final List<Query> queries = new ArrayList<>();
    private final List<Work> works = new ArrayList<>();
    private final Set<String> excused = new HashSet<>();
    private final int[][] has = new int[4][10];
    private int day = 0;

    OfficeModel() {
        for (int[] row : has) {
            java.util.Arrays.fill(row, NONE);
        }
    }

    private OfficeModel copy() {
        OfficeModel copy = new OfficeModel();
        for (Sheet sheet : sheets) {
            Sheet to = new Sheet();
            to.trade = sheet.trade;
            to.marks = sheet.marks;
            for (Revision revision : sheet.revisions) {
                to.revisions.add(copyOf(revision, revision.status));
            }
            copy.sheets.add(to);
        }
        copy.references.addAll(references);
        for (Sending sending : sendings) {
            Sending to = new Sending();
            to.day = sending.day;
            to.crews.addAll(sending.crews);
            to.receivedBy.addAll(sending.receivedBy);
            to.sheetAndRevision.addAll(sending.sheetAndRevision);
            copy.sendings.add(to);
        }
        for (Query query : queries) {
            Query to = new Query();
            to.sheet = query.sheet;
            to.state = query.state;
            to.fields = query.fields;
            copy.queries.add(to);
        }
        for (Work work : works) {
            Work to = new Work();
            to.crew = work.crew;
            to.set = work.set;
            to.days = work.days;
            to.state = work.state;
            to.stops = work.stops;
            to.fields = work.fields;
            copy.works.add(to);
        }
        copy.excused.addAll(excused);
        for (int crew = 0; crew < 4; crew++) {
            copy.has[crew] = has[crew].clone();
        }
        copy.day = day;
        return copy;
    }

    private static Revision copyOf(Revision revision, int status) {
        Revision to = new Revision();
        to.fields.addAll(revision.fields);
        to.details.addAll(revision.details);
        to.status = status;
        return to;
    }

    // What is asked of arguments.

    private static void index(boolean isThere) {
        if (!isThere) {
            throw new IndexOutOfBoundsException();
        }
    }

    private static void argument(boolean isGood) {
        if (!isGood) {
            throw new IllegalArgumentException();
        }
    }

    private static void state(boolean isGood) {
        if (!isGood) {
            throw new IllegalStateException();
        }
    }

    private static boolean within(int number, int from, int to) {
        return number >= from && number <= to;
    }

    private boolean isSheet(int sheet) {
        return within(sheet, 0, sheets.size() - 1);
    }

    private static Set<Integer> fields(int x, int y, int toX, int toY) {
        argument(within(x, 0, 19) && within(y, 0, 19) && within(toX, 0, 19) && within(toY, 0, 19));
        Set<Integer> fields = new HashSet<>();
        for (int column = x; column <= toX; column++) {
            for (int row = y; row <= toY; row++) {
                fields.add(column * 100 + row);
            }
        }
        argument(!fields.isEmpty());
        return fields;
    }

    private static Set<Integer> members(int set) {
        Set<Integer> members = new TreeSet<>();
        for (int k = 0; k < 31; k++) {
            if ((set >> k) % 2 == 1) {
                members.add(k);
            }
        }
        return members;
    }

    private void setOfSheets(int set) {
        argument(set >= 1);
        for (int member : members(set)) {
            argument(isSheet(member));
        }
    }

    // The rules.

    private boolean isHeld(int[] reference) {
        return sheets.get(reference[1]).issuedDetails().contains(reference[2]);
    }

    private int broken(int end, int sheet) {
        int broken = 0;
        for (int[] reference : references) {
            if ((end == NONE || reference[end] == sheet) && !isHeld(reference)) {
                broken++;
            }
        }
        return broken;
    }

    private static String pair(int one, int other) {
        return Math.min(one, other) + "," + Math.max(one, other);
    }

    private Set<Integer> clashFields(int one, int other) {
        Set<Integer> common = new HashSet<>();
        if (sheets.get(one).trade != sheets.get(other).trade && !excused.contains(pair(one, other))) {
            common.addAll(sheets.get(one).issuedFields());
            common.retainAll(sheets.get(other).issuedFields());
        }
        return common;
    }

    private List<Set<Integer>> cloudsOn(int sheet) {
        List<Set<Integer>> clouds = new ArrayList<>();
        for (Query query : queries) {
            if (query.sheet == sheet && query.state != 2) {
                clouds.add(query.fields);
            }
        }
        for (int other = 0; other < sheets.size(); other++) {
            if (other != sheet) {
                clouds.add(clashFields(sheet, other));
            }
        }
        return clouds;
    }

    private int wrong(int number, Work work) {
        Sheet sheet = sheets.get(number);
        if (sheet.issued() == NONE) {
            return 1;
        }
        if (has[work.crew][number] != sheet.issued()) {
            return 2;
        }
        if (broken(0, number) > 0) {
            return 3;
        }
        for (Set<Integer> cloud : cloudsOn(number)) {
            for (int field : cloud) {
                if (work.fields.contains(field)) {
                    return 4;
                }
            }
        }
        return sheet.marks >= 3 ? 5 : 0;
    }

    private int firstWrong(Work work) {
        for (int sheet : members(work.set)) {
            if (wrong(sheet, work) != 0) {
                return sheet;
            }
        }
        return NONE;
    }

    private boolean couldRun(Work work) {
        return (work.state == 0 || work.state == 2) && firstWrong(work) == NONE;
    }

    private int endOfCall() {
        int stopped = 0;
        for (Work work : works) {
            if (work.state == 1 && firstWrong(work) != NONE) {
                work.state = 2;
                work.stops++;
                stopped++;
            }
        }
        return stopped;
    }

    // The calls.

    int sheet(int trade) {
        argument(within(trade, 0, 3));
        state(sheets.size() < 10);
        Sheet sheet = new Sheet();
        sheet.trade = trade;
        Revision first = new Revision();
        first.fields.add(0);
        sheet.revisions.add(first);
        sheets.add(sheet);
        endOfCall();
        return sheets.size() - 1;
    }

    int draw(int sheet, int x, int y, int toX, int toY, int details) {
        index(isSheet(sheet));
        Set<Integer> fields = fields(x, y, toX, toY);
        argument(within(details, 0, 255));
        Revision last = sheets.get(sheet).last();
        state(last.status == 0);
        last.fields = fields;
        last.details = members(details);
        endOfCall();
        return fields.size();
    }

    int revise(int sheet) {
        index(isSheet(sheet));
        Sheet revised = sheets.get(sheet);
        state(revised.last().status >= 2 && revised.revisions.size() < 6);
        revised.revisions.add(copyOf(revised.last(), 0));
        revised.marks = 0;
        endOfCall();
        return revised.revisions.size() - 1;
    }

    int check(int sheet) {
        index(isSheet(sheet));
        state(sheets.get(sheet).last().status == 0);
        sheets.get(sheet).last().status = 1;
        endOfCall();
        return broken(0, sheet);
    }

    int issue(int sheet) {
        index(isSheet(sheet));
        Sheet issued = sheets.get(sheet);
        state(issued.last().status == 1 && broken(0, sheet) == 0);
        if (issued.issued() != NONE) {
            issued.revisions.get(issued.issued()).status = 3;
        }
        issued.last().status = 2;
        for (Query query : queries) {
            if (query.sheet == sheet && query.state == 1) {
                query.state = 2;
            }
        }
        return endOfCall();
    }

    int refer(int from, int to, int detail) {
        index(isSheet(from) && isSheet(to));
        argument(from != to && within(detail, 0, 7));
        state(references.size() < 20 && sheets.get(from).last().status == 0);
        references.add(new int[] {from, to, detail});
        endOfCall();
        return references.size() - 1;
    }

    int ofSheet(int sheet, int what) {
        index(isSheet(sheet));
        argument(within(what, 0, 9));
        Sheet asked = sheets.get(sheet);
        int clashes = 0;
        for (int other = 0; other < sheets.size(); other++) {
            clashes += other != sheet && !clashFields(sheet, other).isEmpty() ? 1 : 0;
        }
        int details = 0;
        for (int detail : asked.issuedDetails()) {
            details += 1 << detail;
        }
        int[] answers = {asked.trade, asked.revisions.size(), asked.issued(), asked.last().status,
            asked.issuedFields().size(), details, asked.marks, broken(0, sheet), broken(1, sheet), clashes};
        return answers[what];
    }

    int status(int sheet, int revision) {
        index(isSheet(sheet) && within(revision, 0, sheets.get(sheet).revisions.size() - 1));
        return sheets.get(sheet).revisions.get(revision).status;
    }

    boolean holds(int reference) {
        index(within(reference, 0, references.size() - 1));
        return isHeld(references.get(reference));
    }

    int send(int crews, int set) {
        argument(within(crews, 1, 15));
        setOfSheets(set);
        state(sendings.size() < 20);
        Sending sending = new Sending();
        sending.day = day;
        sending.crews.addAll(members(crews));
        for (int sheet : members(set)) {
            state(sheets.get(sheet).issued() != NONE);
            sending.sheetAndRevision.add(new int[] {sheet, sheets.get(sheet).issued()});
        }
        sendings.add(sending);
        endOfCall();
        return sendings.size() - 1;
    }

    int receive(int sending, int crew) {
        index(within(sending, 0, sendings.size() - 1) && within(crew, 0, 3));
        Sending received = sendings.get(sending);
        state(received.crews.contains(crew) && !received.receivedBy.contains(crew));
        received.receivedBy.add(crew);
        int taken = 0;
        for (int[] one : received.sheetAndRevision) {
            if (has[crew][one[0]] == NONE || one[1] > has[crew][one[0]]) {
                has[crew][one[0]] = one[1];
                taken++;
            }
        }
        endOfCall();
        return taken;
    }

    int has(int crew, int sheet) {
        index(within(crew, 0, 3) && isSheet(sheet));
        return has[crew][sheet];
    }

    int owes(int crew) {
        index(within(crew, 0, 3));
        int owed = 0;
        for (Sending sending : sendings) {
            if (sending.crews.contains(crew) && !sending.receivedBy.contains(crew) && sending.day + 5 < day) {
                owed++;
            }
        }
        return owed;
    }

    int query(int sheet, int x, int y, int toX, int toY) {
        index(isSheet(sheet));
        Query query = new Query();
        query.fields = fields(x, y, toX, toY);
        state(queries.size() < 20 && sheets.get(sheet).issued() != NONE);
        query.sheet = sheet;
        queries.add(query);
        endOfCall();
        return queries.size() - 1;
    }

    int answer(int query, boolean isChange) {
        index(within(query, 0, queries.size() - 1));
        state(queries.get(query).state == 0);
        queries.get(query).state = isChange ? 1 : 2;
        endOfCall();
        return queries.get(query).state;
    }

    int ofQuery(int query) {
        index(within(query, 0, queries.size() - 1));
        return queries.get(query).state;
    }

    int clash(int one, int other) {
        index(isSheet(one) && isSheet(other));
        argument(one != other);
        return clashFields(one, other).size();
    }

    boolean excuse(int one, int other) {
        index(isSheet(one) && isSheet(other));
        argument(one != other);
        if (!excused.add(pair(one, other))) {
            excused.remove(pair(one, other));
        }
        endOfCall();
        return excused.contains(pair(one, other));
    }

    int clouds(int sheet, int x, int y) {
        index(isSheet(sheet));
        argument(within(x, 0, 19) && within(y, 0, 19));
        int over = 0;
        for (Set<Integer> cloud : cloudsOn(sheet)) {
            over += cloud.contains(x * 100 + y) ? 1 : 0;
        }
        return over;
    }

    int pack(int crew, int set, int days) {
        index(within(crew, 0, 3));
        setOfSheets(set);
        argument(within(days, 1, 9));
        state(works.size() < 8);
        Work work = new Work();
        work.crew = crew;
        work.set = set;
        work.days = days;
        work.fields = fields(0, 0, 19, 19);
        works.add(work);
        endOfCall();
        return works.size() - 1;
    }

    int place(int pack, int x, int y, int toX, int toY) {
        index(within(pack, 0, works.size() - 1));
        Set<Integer> fields = fields(x, y, toX, toY);
        state(works.get(pack).state != 3);
        works.get(pack).fields = fields;
        endOfCall();
        return fields.size();
    }

    int start(int pack) {
        index(within(pack, 0, works.size() - 1));
        state(couldRun(works.get(pack)));
        works.get(pack).state = 1;
        endOfCall();
        return works.get(pack).days;
    }

    int day() {
        day++;
        int done = 0;
        for (Work work : works) {
            if (work.state == 1) {
                work.days--;
                if (work.days == 0) {
                    work.state = 3;
                    done++;
                    for (int sheet : members(work.set)) {
                        sheets.get(sheet).marks++;
                    }
                }
            }
        }
        endOfCall();
        return done;
    }

    int ofPack(int pack, int what) {
        index(within(pack, 0, works.size() - 1));
        argument(within(what, 0, 6));
        Work work = works.get(pack);
        int first = firstWrong(work);
        int[] answers = {work.crew, work.set, work.state, work.days, first,
            first == NONE ? 0 : wrong(first, work), work.stops};
        return answers[what];
    }

    int many(int what) {
        argument(within(what, 0, 12));
        int notClosed = 0;
        for (Query query : queries) {
            notClosed += query.state == 2 ? 0 : 1;
        }
        int[] byState = new int[4];
        for (Work work : works) {
            byState[work.state]++;
        }
        int clashes = 0;
        for (int sheet = 0; sheet < sheets.size(); sheet++) {
            clashes += ofSheet(sheet, 9);
        }
        int[] answers = {sheets.size(), references.size(), broken(NONE, 0), sendings.size(), queries.size(),
            notClosed, clashes / 2, works.size(), byState[0], byState[1], byState[2], byState[3], day};
        return answers[what];
    }

    double meanRevisions() {
        double sum = 0;
        for (Sheet sheet : sheets) {
            sum += sheet.revisions.size();
        }
        return sheets.isEmpty() ? 0 : sum / sheets.size();
    }

    int stoppedBy(int sheet) {
        index(isSheet(sheet));
        try {
            return copy().issue(sheet);
        } catch (IllegalStateException e) {
            return NONE;
        }
    }

    int freedBy(int query) {
        index(within(query, 0, queries.size() - 1));
        OfficeModel then = copy();
        then.queries.get(query).state = 2;
        int freed = 0;
        for (int i = 0; i < works.size(); i++) {
            if (works.get(i).state == 2 && !couldRun(works.get(i)) && then.couldRun(then.works.get(i))) {
                freed++;
            }
        }
        return freed;
    }

    int freedByAll(int crew) {
        index(within(crew, 0, 3));
        OfficeModel then = copy();
        for (int i = 0; i < sendings.size(); i++) {
            if (sendings.get(i).crews.contains(crew) && !sendings.get(i).receivedBy.contains(crew)) {
                then.receive(i, crew);
            }
        }
        int freed = 0;
        for (Work work : then.works) {
            freed += work.crew == crew && then.couldRun(work) ? 1 : 0;
        }
        return freed;
    }

    long digest() {
        List<Integer> numbers = new ArrayList<>();
        for (int what = 0; what <= 12; what++) {
            numbers.add(many(what));
        }
        for (int sheet = 0; sheet < sheets.size(); sheet++) {
            for (int what = 0; what <= 9; what++) {
                numbers.add(ofSheet(sheet, what));
            }
            for (Revision revision : sheets.get(sheet).revisions) {
                numbers.add(revision.status);
            }
            for (int crew = 0; crew < 4; crew++) {
                numbers.add(has(crew, sheet));
            }
            numbers.add(stoppedBy(sheet));
        }
        for (int query = 0; query < queries.size(); query++) {
            numbers.add(ofQuery(query));
            numbers.add(freedBy(query));
        }
        for (int crew = 0; crew < 4; crew++) {
            numbers.add(owes(crew));
            numbers.add(freedByAll(crew));
        }
        for (int pack = 0; pack < works.size(); pack++) {
            for (int what = 0; what <= 6; what++) {
                numbers.add(ofPack(pack, what));
            }
        }
        long d = 58107;
        for (int number : numbers) {
            d = d * 31 + number;
        }
        return d;
    }
}
