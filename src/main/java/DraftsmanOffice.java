import java.util.Arrays;

/** A drawing office and its site. */
public final class DraftsmanOffice {
    private static final int NONE = -1;

    private static final int MAX_SHEETS = 10;
    private static final int MAX_REVISIONS = 6;
    private static final int MAX_REFERENCES = 20;
    private static final int MAX_SENDINGS = 20;
    private static final int MAX_QUERIES = 20;
    private static final int MAX_PACKAGES = 8;
    private static final int TRADES = 4;
    private static final int CREWS = 4;
    private static final int DETAILS = 8;
    private static final int ALL_DETAILS = 255;
    private static final int ALL_CREWS = 15;
    private static final int MAX_DAYS = 9;
    private static final int DAYS_TO_RECEIVE = 5;
    private static final int TOO_MANY_MARKS = 3;

    // A region is a long: its columns as bits 0 to 19, its rows as bits 20 to 39.
    // So the fields that two regions have in common are the "and" of both.
    private static final int SIDE = 20;
    private static final long ALL_COLUMNS = (1L << SIDE) - 1;
    private static final long ALL_ROWS = ALL_COLUMNS << SIDE;
    private static final long NO_REGION = 0;
    private static final long FIRST_FIELD = 1L | 1L << SIDE;

    // The status of a revision.
    private static final int DRAFT = 0;
    private static final int CHECKED = 1;
    private static final int ISSUED = 2;
    private static final int SUPERSEDED = 3;

    // The state of a query.
    private static final int OPEN = 0;
    private static final int PROMISED = 1;
    private static final int CLOSED = 2;

    // The state of a package.
    private static final int WAITING = 0;
    private static final int RUNNING = 1;
    private static final int STOPPED = 2;
    private static final int DONE = 3;

    // What is wrong with a sheet for a package.
    private static final int GOOD = 0;
    private static final int NOT_ISSUED = 1;
    private static final int NOT_WITH_CREW = 2;
    private static final int REFERS_TO_BROKEN = 3;
    private static final int CLOUDED = 4;
    private static final int WORN = 5;

    private static final long DIGEST_START = 58107;
    private static final long DIGEST_FACTOR = 31;
    private static final int LAST_OF_SHEET = 9;
    private static final int LAST_OF_PACKAGE = 6;
    private static final int LAST_OF_MANY = 12;

    private final Sheet[] sheets = new Sheet[MAX_SHEETS];
    private final Reference[] references = new Reference[MAX_REFERENCES];
    private final Sending[] sendings = new Sending[MAX_SENDINGS];
    private final Query[] queries = new Query[MAX_QUERIES];
    private final WorkPackage[] packages = new WorkPackage[MAX_PACKAGES];
    private final int[][] crewHas = new int[CREWS][MAX_SHEETS];
    private final int[] wouldHave = new int[MAX_SHEETS];
    private int sheetCount = 0;
    private int referenceCount = 0;
    private int sendingCount = 0;
    private int queryCount = 0;
    private int packageCount = 0;
    private int today = 0;

    public DraftsmanOffice() {
        for (int crew = 0; crew < CREWS; crew++) {
            Arrays.fill(crewHas[crew], NONE);
        }
    }

    // ---- sheets

    public int sheet(int trade) throws IllegalArgumentException, IllegalStateException {
        if (trade < 0 || trade >= TRADES) {
            throw new IllegalArgumentException("the trade is not 0 to 3");
        }
        if (sheetCount >= MAX_SHEETS) {
            throw new IllegalStateException("there are 10 sheets");
        }
        int number = sheetCount;
        sheets[number] = new Sheet(trade);
        sheetCount++;
        return number;
    }

    public int draw(int sheet, int x, int y, int toX, int toY, int details)
            throws IndexOutOfBoundsException, IllegalArgumentException, IllegalStateException {
        requireSheet(sheet);
        requireRegion(x, y, toX, toY);
        if (details < 0 || details > ALL_DETAILS) {
            throw new IllegalArgumentException("the details are not 0 to 255");
        }
        Sheet drawn = sheets[sheet];
        if (drawn.lastStatus() != DRAFT) {
            throw new IllegalStateException("the last revision is no draft");
        }
        long region = regionOf(x, y, toX, toY);
        drawn.drawLast(region, details);
        return fieldsOf(region);
    }

    public int revise(int sheet) throws IndexOutOfBoundsException, IllegalStateException {
        requireSheet(sheet);
        Sheet revised = sheets[sheet];
        if (revised.lastStatus() != ISSUED || revised.last + 1 >= MAX_REVISIONS) {
            throw new IllegalStateException("the last revision is not issued, or there are 6");
        }
        revised.beginRevision();
        return revised.last;
    }

    public int check(int sheet) throws IndexOutOfBoundsException, IllegalStateException {
        requireSheet(sheet);
        Sheet checked = sheets[sheet];
        if (checked.lastStatus() != DRAFT) {
            throw new IllegalStateException("the last revision is no draft");
        }
        checked.isLastChecked = true;
        return brokenFrom(sheet);
    }

    public int issue(int sheet) throws IndexOutOfBoundsException, IllegalStateException {
        requireSheet(sheet);
        if (!isReadyToIssue(sheet)) {
            throw new IllegalStateException("the last revision is not checked, or a reference is broken");
        }
        Sheet issued = sheets[sheet];
        issued.setIssued(issued.last);
        closePromised(sheet);
        return stopUnfit();
    }

    public int refer(int from, int to, int detail)
            throws IndexOutOfBoundsException, IllegalArgumentException, IllegalStateException {
        requireSheet(from);
        requireSheet(to);
        if (from == to || detail < 0 || detail >= DETAILS) {
            throw new IllegalArgumentException("a sheet refers to itself, or the detail is not 0 to 7");
        }
        if (referenceCount >= MAX_REFERENCES || sheets[from].lastStatus() != DRAFT) {
            throw new IllegalStateException("there are 20 references, or the last revision is no draft");
        }
        int number = referenceCount;
        references[number] = new Reference(from, to, detail);
        referenceCount++;
        stopUnfit();
        return number;
    }

    public int ofSheet(int sheet, int what) throws IndexOutOfBoundsException, IllegalArgumentException {
        requireSheet(sheet);
        Sheet asked = sheets[sheet];
        switch (what) {
            case 0:
                return asked.trade;
            case 1:
                return asked.last + 1;
            case 2:
                return asked.issued;
            case 3:
                return asked.lastStatus();
            case 4:
                return fieldsOf(asked.issuedRegion);
            case 5:
                return asked.issuedDetails;
            case 6:
                return asked.marks;
            case 7:
                return brokenFrom(sheet);
            case 8:
                return brokenTo(sheet);
            case LAST_OF_SHEET:
                return clashesOf(sheet);
            default:
                throw new IllegalArgumentException("what is not 0 to 9");
        }
    }

    public int status(int sheet, int revision) throws IndexOutOfBoundsException {
        requireSheet(sheet);
        Sheet asked = sheets[sheet];
        if (revision < 0 || revision > asked.last) {
            throw new IndexOutOfBoundsException("there is no such revision");
        }
        return asked.statusOf(revision);
    }

    public boolean holds(int reference) throws IndexOutOfBoundsException {
        if (reference < 0 || reference >= referenceCount) {
            throw new IndexOutOfBoundsException("there is no such reference");
        }
        return !isBroken(references[reference]);
    }

    // ---- sendings

    public int send(int crews, int sheets) throws IllegalArgumentException, IllegalStateException {
        if (crews < 1 || crews > ALL_CREWS || !isSetOfSheets(sheets)) {
            throw new IllegalArgumentException("the crews are not 1 to 15, or the sheets are no set of sheets");
        }
        if (sendingCount >= MAX_SENDINGS || !areAllIssued(sheets)) {
            throw new IllegalStateException("there are 20 sendings, or a sheet has no issued revision");
        }
        int number = sendingCount;
        Sending sending = new Sending(crews, today);
        packSheets(sending, sheets);
        sendings[number] = sending;
        sendingCount++;
        return number;
    }

    public int receive(int sending, int crew) throws IndexOutOfBoundsException, IllegalStateException {
        if (sending < 0 || sending >= sendingCount) {
            throw new IndexOutOfBoundsException("there is no such sending");
        }
        requireCrew(crew);
        Sending received = sendings[sending];
        if (!isIn(received.awaitedBy, crew)) {
            throw new IllegalStateException("it was not sent to the crew, or the crew did receive it");
        }
        received.awaitedBy &= ~(1 << crew);
        return takeLater(received, crewHas[crew]);
    }

    public int has(int crew, int sheet) throws IndexOutOfBoundsException {
        requireCrew(crew);
        requireSheet(sheet);
        return crewHas[crew][sheet];
    }

    public int owes(int crew) throws IndexOutOfBoundsException {
        requireCrew(crew);
        int owed = 0;
        for (int i = 0; i < sendingCount; i++) {
            Sending sending = sendings[i];
            if (isIn(sending.awaitedBy, crew) && today - sending.sentOn > DAYS_TO_RECEIVE) {
                owed++;
            }
        }
        return owed;
    }

    // ---- clouds

    public int query(int sheet, int x, int y, int toX, int toY)
            throws IndexOutOfBoundsException, IllegalArgumentException, IllegalStateException {
        requireSheet(sheet);
        requireRegion(x, y, toX, toY);
        if (queryCount >= MAX_QUERIES || sheets[sheet].issued == NONE) {
            throw new IllegalStateException("there are 20 queries, or the sheet has no issued revision");
        }
        int number = queryCount;
        queries[number] = new Query(sheet, regionOf(x, y, toX, toY));
        queryCount++;
        stopUnfit();
        return number;
    }

    public int answer(int query, boolean isChange) throws IndexOutOfBoundsException, IllegalStateException {
        requireQuery(query);
        Query answered = queries[query];
        if (answered.state != OPEN) {
            throw new IllegalStateException("the query is not open");
        }
        answered.state = isChange ? PROMISED : CLOSED;
        return answered.state;
    }

    public int ofQuery(int query) throws IndexOutOfBoundsException {
        requireQuery(query);
        return queries[query].state;
    }

    public int clash(int one, int other) throws IndexOutOfBoundsException, IllegalArgumentException {
        requireTwoSheets(one, other);
        return fieldsOf(clashRegion(one, other));
    }

    public boolean excuse(int one, int other) throws IndexOutOfBoundsException, IllegalArgumentException {
        requireTwoSheets(one, other);
        sheets[one].excused ^= 1 << other;
        sheets[other].excused ^= 1 << one;
        stopUnfit();
        return isIn(sheets[one].excused, other);
    }

    public int clouds(int sheet, int x, int y) throws IndexOutOfBoundsException, IllegalArgumentException {
        requireSheet(sheet);
        requireRegion(x, y, x, y);
        return cloudsOver(sheet, regionOf(x, y, x, y));
    }

    // ---- packages

    public int pack(int crew, int sheets, int days)
            throws IndexOutOfBoundsException, IllegalArgumentException, IllegalStateException {
        requireCrew(crew);
        if (!isSetOfSheets(sheets) || days < 1 || days > MAX_DAYS) {
            throw new IllegalArgumentException("the sheets are no set of sheets, or the days are not 1 to 9");
        }
        if (packageCount >= MAX_PACKAGES) {
            throw new IllegalStateException("there are 8 packages");
        }
        int number = packageCount;
        packages[number] = new WorkPackage(crew, sheets, days);
        packageCount++;
        return number;
    }

    public int place(int pack, int x, int y, int toX, int toY)
            throws IndexOutOfBoundsException, IllegalArgumentException, IllegalStateException {
        requirePackage(pack);
        requireRegion(x, y, toX, toY);
        WorkPackage placed = packages[pack];
        if (placed.state == DONE) {
            throw new IllegalStateException("the package is done");
        }
        placed.region = regionOf(x, y, toX, toY);
        stopUnfit();
        return fieldsOf(placed.region);
    }

    public int start(int pack) throws IndexOutOfBoundsException, IllegalStateException {
        requirePackage(pack);
        WorkPackage started = packages[pack];
        if (!started.isAtRest() || firstUnfit(started, crewHas[started.crew]) != NONE) {
            throw new IllegalStateException("the package is running or done, or a sheet is not good");
        }
        started.state = RUNNING;
        return started.daysLeft;
    }

    public int day() {
        today++;
        int done = 0;
        for (int i = 0; i < packageCount; i++) {
            WorkPackage worked = packages[i];
            if (worked.state != RUNNING) {
                continue;
            }
            worked.workADay();
            if (worked.state == DONE) {
                done++;
                mark(worked.sheets);
            }
        }
        stopUnfit();
        return done;
    }

    public int ofPack(int pack, int what) throws IndexOutOfBoundsException, IllegalArgumentException {
        requirePackage(pack);
        WorkPackage asked = packages[pack];
        switch (what) {
            case 0:
                return asked.crew;
            case 1:
                return asked.sheets;
            case 2:
                return asked.state;
            case 3:
                return asked.daysLeft;
            case 4:
                return firstUnfit(asked, crewHas[asked.crew]);
            case 5:
                return wrongWithFirst(asked);
            case LAST_OF_PACKAGE:
                return asked.stops;
            default:
                throw new IllegalArgumentException("what is not 0 to 6");
        }
    }

    public int many(int what) throws IllegalArgumentException {
        switch (what) {
            case 0:
                return sheetCount;
            case 1:
                return referenceCount;
            case 2:
                return brokenOfAll();
            case 3:
                return sendingCount;
            case 4:
                return queryCount;
            case 5:
                return queriesNotClosed();
            case 6:
                return clashingPairs();
            case 7:
                return packageCount;
            case 8:
                return packagesThatAre(WAITING);
            case 9:
                return packagesThatAre(RUNNING);
            case 10:
                return packagesThatAre(STOPPED);
            case 11:
                return packagesThatAre(DONE);
            case LAST_OF_MANY:
                return today;
            default:
                throw new IllegalArgumentException("what is not 0 to 12");
        }
    }

    public double meanRevisions() {
        if (sheetCount == 0) {
            return 0;
        }
        int revisions = 0;
        for (int i = 0; i < sheetCount; i++) {
            revisions += sheets[i].last + 1;
        }
        return (double) revisions / sheetCount;
    }

    // ---- what would be (nothing is changed)

    public int stoppedBy(int sheet) throws IndexOutOfBoundsException {
        requireSheet(sheet);
        if (!isReadyToIssue(sheet)) {
            return NONE;
        }
        // It is issued on trial, and that is taken back, so that the same rules judge it. Its promised
        // queries can stay: what works by this sheet is stopped anyway, for no crew has the new revision.
        Sheet tried = sheets[sheet];
        int issuedBefore = tried.issued;
        tried.setIssued(tried.last);
        int stopped = Integer.bitCount(unfitRunning());
        tried.setIssued(issuedBefore);
        return stopped;
    }

    public int freedBy(int query) throws IndexOutOfBoundsException {
        requireQuery(query);
        Query tried = queries[query];
        int stateBefore = tried.state;
        int fitBefore = fitStopped();
        tried.state = CLOSED;
        int fitThen = fitStopped();
        tried.state = stateBefore;
        // A cloud less makes no sheet worse, so the packages that are fit before are fit then.
        return fitThen - fitBefore;
    }

    public int freedByAll(int crew) throws IndexOutOfBoundsException {
        requireCrew(crew);
        System.arraycopy(crewHas[crew], 0, wouldHave, 0, MAX_SHEETS);
        for (int i = 0; i < sendingCount; i++) {
            if (isIn(sendings[i].awaitedBy, crew)) {
                takeLater(sendings[i], wouldHave);
            }
        }
        int freed = 0;
        for (int i = 0; i < packageCount; i++) {
            WorkPackage asked = packages[i];
            if (asked.crew == crew && asked.isAtRest() && firstUnfit(asked, wouldHave) == NONE) {
                freed++;
            }
        }
        return freed;
    }

    public long digest() {
        long d = DIGEST_START;
        for (int what = 0; what <= LAST_OF_MANY; what++) {
            d = d * DIGEST_FACTOR + many(what);
        }
        for (int sheet = 0; sheet < sheetCount; sheet++) {
            for (int what = 0; what <= LAST_OF_SHEET; what++) {
                d = d * DIGEST_FACTOR + ofSheet(sheet, what);
            }
            for (int revision = 0; revision <= sheets[sheet].last; revision++) {
                d = d * DIGEST_FACTOR + status(sheet, revision);
            }
            for (int crew = 0; crew < CREWS; crew++) {
                d = d * DIGEST_FACTOR + has(crew, sheet);
            }
            d = d * DIGEST_FACTOR + stoppedBy(sheet);
        }
        for (int query = 0; query < queryCount; query++) {
            d = d * DIGEST_FACTOR + ofQuery(query);
            d = d * DIGEST_FACTOR + freedBy(query);
        }
        for (int crew = 0; crew < CREWS; crew++) {
            d = d * DIGEST_FACTOR + owes(crew);
            d = d * DIGEST_FACTOR + freedByAll(crew);
        }
        for (int pack = 0; pack < packageCount; pack++) {
            for (int what = 0; what <= LAST_OF_PACKAGE; what++) {
                d = d * DIGEST_FACTOR + ofPack(pack, what);
            }
        }
        return d;
    }

    // What the calls require of their arguments.

    private void requireSheet(int sheet) {
        if (sheet < 0 || sheet >= sheetCount) {
            throw new IndexOutOfBoundsException("there is no such sheet");
        }
    }

    private void requireTwoSheets(int one, int other) {
        requireSheet(one);
        requireSheet(other);
        if (one == other) {
            throw new IllegalArgumentException("the sheets are the same");
        }
    }

    private void requireQuery(int query) {
        if (query < 0 || query >= queryCount) {
            throw new IndexOutOfBoundsException("there is no such query");
        }
    }

    private void requirePackage(int pack) {
        if (pack < 0 || pack >= packageCount) {
            throw new IndexOutOfBoundsException("there is no such package");
        }
    }

    private static void requireCrew(int crew) {
        if (crew < 0 || crew >= CREWS) {
            throw new IndexOutOfBoundsException("there is no such crew");
        }
    }

    private static void requireRegion(int x, int y, int toX, int toY) {
        if (x < 0 || x > toX || toX >= SIDE || y < 0 || y > toY || toY >= SIDE) {
            throw new IllegalArgumentException("the region is none");
        }
    }

    private boolean isSetOfSheets(int set) {
        return set >= 1 && set < 1 << sheetCount;
    }

    // Sets and regions.

    private static boolean isIn(int set, int number) {
        return (set & 1 << number) != 0;
    }

    private static long regionOf(int x, int y, int toX, int toY) {
        return bitsFrom(x, toX) | bitsFrom(y, toY) << SIDE;
    }

    private static long bitsFrom(int first, int last) {
        return (2L << last) - (1L << first);
    }

    private static int fieldsOf(long region) {
        return Long.bitCount(region & ALL_COLUMNS) * Long.bitCount(region & ALL_ROWS);
    }

    private static boolean hasField(long region) {
        return (region & ALL_COLUMNS) != 0 && (region & ALL_ROWS) != 0;
    }

    // References.

    private boolean isBroken(Reference reference) {
        // A sheet without an issued revision has no issued details.
        return !isIn(sheets[reference.to].issuedDetails, reference.detail);
    }

    private int brokenFrom(int sheet) {
        int broken = 0;
        for (int i = 0; i < referenceCount; i++) {
            if (references[i].from == sheet && isBroken(references[i])) {
                broken++;
            }
        }
        return broken;
    }

    private int brokenTo(int sheet) {
        int broken = 0;
        for (int i = 0; i < referenceCount; i++) {
            if (references[i].to == sheet && isBroken(references[i])) {
                broken++;
            }
        }
        return broken;
    }

    private int brokenOfAll() {
        int broken = 0;
        for (int i = 0; i < referenceCount; i++) {
            if (isBroken(references[i])) {
                broken++;
            }
        }
        return broken;
    }

    private boolean isReadyToIssue(int sheet) {
        return sheets[sheet].lastStatus() == CHECKED && brokenFrom(sheet) == 0;
    }

    // Sendings.

    private boolean areAllIssued(int set) {
        for (int i = 0; i < sheetCount; i++) {
            if (isIn(set, i) && sheets[i].issued == NONE) {
                return false;
            }
        }
        return true;
    }

    private void packSheets(Sending sending, int set) {
        for (int i = 0; i < sheetCount; i++) {
            if (isIn(set, i)) {
                sending.revisions[i] = sheets[i].issued;
            }
        }
    }

    /** Puts each revision sent that is later into the row of what a crew has; tells how many. */
    private static int takeLater(Sending sending, int[] row) {
        int taken = 0;
        for (int i = 0; i < MAX_SHEETS; i++) {
            if (sending.revisions[i] > row[i]) {
                row[i] = sending.revisions[i];
                taken++;
            }
        }
        return taken;
    }

    // Clouds.

    private void closePromised(int sheet) {
        for (int i = 0; i < queryCount; i++) {
            if (queries[i].sheet == sheet && queries[i].state == PROMISED) {
                queries[i].state = CLOSED;
            }
        }
    }

    private int queriesNotClosed() {
        int found = 0;
        for (int i = 0; i < queryCount; i++) {
            if (queries[i].state != CLOSED) {
                found++;
            }
        }
        return found;
    }

    /** The fields on which two sheets clash. A sheet has its own trade: it never clashes with itself. */
    private long clashRegion(int one, int other) {
        Sheet first = sheets[one];
        Sheet second = sheets[other];
        if (first.trade == second.trade || isIn(first.excused, other)) {
            return NO_REGION;
        }
        return first.issuedRegion & second.issuedRegion;
    }

    private int clashesOf(int sheet) {
        int clashes = 0;
        for (int other = 0; other < sheetCount; other++) {
            if (hasField(clashRegion(sheet, other))) {
                clashes++;
            }
        }
        return clashes;
    }

    private int clashingPairs() {
        int pairs = 0;
        for (int one = 0; one < sheetCount; one++) {
            for (int other = one + 1; other < sheetCount; other++) {
                if (hasField(clashRegion(one, other))) {
                    pairs++;
                }
            }
        }
        return pairs;
    }

    private int cloudsOver(int sheet, long region) {
        int over = 0;
        for (int i = 0; i < queryCount; i++) {
            Query asked = queries[i];
            if (asked.sheet == sheet && asked.state != CLOSED && hasField(asked.region & region)) {
                over++;
            }
        }
        for (int other = 0; other < sheetCount; other++) {
            if (hasField(clashRegion(sheet, other) & region)) {
                over++;
            }
        }
        return over;
    }

    // Packages.

    /** What is wrong with a sheet for a package whose crew has the revisions of this row. */
    private int wrongWith(int number, WorkPackage asked, int[] row) {
        Sheet sheet = sheets[number];
        if (sheet.issued == NONE) {
            return NOT_ISSUED;
        }
        if (row[number] != sheet.issued) {
            return NOT_WITH_CREW;
        }
        if (brokenFrom(number) > 0) {
            return REFERS_TO_BROKEN;
        }
        if (cloudsOver(number, asked.region) > 0) {
            return CLOUDED;
        }
        return sheet.marks >= TOO_MANY_MARKS ? WORN : GOOD;
    }

    /** The first sheet that a package needs that is not good, if its crew has the revisions of this row. */
    private int firstUnfit(WorkPackage asked, int[] row) {
        for (int i = 0; i < sheetCount; i++) {
            if (isIn(asked.sheets, i) && wrongWith(i, asked, row) != GOOD) {
                return i;
            }
        }
        return NONE;
    }

    private int wrongWithFirst(WorkPackage asked) {
        int[] row = crewHas[asked.crew];
        int first = firstUnfit(asked, row);
        return first == NONE ? GOOD : wrongWith(first, asked, row);
    }

    private int unfitRunning() {
        int unfit = 0;
        for (int i = 0; i < packageCount; i++) {
            WorkPackage asked = packages[i];
            if (asked.state == RUNNING && firstUnfit(asked, crewHas[asked.crew]) != NONE) {
                unfit |= 1 << i;
            }
        }
        return unfit;
    }

    /**
     * Stops what must not go on, and tells how many; it ends each call by which a good sheet can
     * become one that is not good. The other calls that change something can only make one good.
     */
    private int stopUnfit() {
        int unfit = unfitRunning();
        for (int i = 0; i < packageCount; i++) {
            if (isIn(unfit, i)) {
                packages[i].state = STOPPED;
                packages[i].stops++;
            }
        }
        return Integer.bitCount(unfit);
    }

    private int fitStopped() {
        int fit = 0;
        for (int i = 0; i < packageCount; i++) {
            WorkPackage asked = packages[i];
            if (asked.state == STOPPED && firstUnfit(asked, crewHas[asked.crew]) == NONE) {
                fit++;
            }
        }
        return fit;
    }

    private int packagesThatAre(int state) {
        int found = 0;
        for (int i = 0; i < packageCount; i++) {
            if (packages[i].state == state) {
                found++;
            }
        }
        return found;
    }

    private void mark(int set) {
        for (int i = 0; i < sheetCount; i++) {
            if (isIn(set, i)) {
                sheets[i].marks++;
            }
        }
    }

    private static final class Sheet {
        private final int trade;
        private final long[] regions = new long[MAX_REVISIONS];
        private final int[] details = new int[MAX_REVISIONS];
        private int last = 0;
        private boolean isLastChecked = false;
        private int issued = NONE;
        private long issuedRegion = NO_REGION;
        private int issuedDetails = 0;
        private int marks = 0;
        private int excused = 0;

        private Sheet(int trade) {
            this.trade = trade;
            this.regions[0] = FIRST_FIELD;
        }

        // A revision is begun only after the one before it was issued: so the issued one tells of the rest.
        private int statusOf(int revision) {
            if (revision == issued) {
                return ISSUED;
            }
            if (revision < issued) {
                return SUPERSEDED;
            }
            return isLastChecked ? CHECKED : DRAFT;
        }

        private int lastStatus() {
            return statusOf(last);
        }

        private void drawLast(long region, int set) {
            regions[last] = region;
            details[last] = set;
        }

        private void beginRevision() {
            int next = last + 1;
            if (next < MAX_REVISIONS) {
                regions[next] = regions[last];
                details[next] = details[last];
                last = next;
                isLastChecked = false;
                marks = 0;
            }
        }

        private void setIssued(int revision) {
            issued = revision;
            issuedRegion = revision == NONE ? NO_REGION : regions[revision];
            issuedDetails = revision == NONE ? 0 : details[revision];
        }
    }

    private static final class Reference {
        private final int from;
        private final int to;
        private final int detail;

        private Reference(int from, int to, int detail) {
            this.from = from;
            this.to = to;
            this.detail = detail;
        }
    }

    private static final class Sending {
        private final int sentOn;
        private final int[] revisions = new int[MAX_SHEETS];
        private int awaitedBy;

        private Sending(int crews, int sentOn) {
            this.awaitedBy = crews;
            this.sentOn = sentOn;
            Arrays.fill(this.revisions, NONE);
        }
    }

    private static final class Query {
        private final int sheet;
        private final long region;
        private int state = OPEN;

        private Query(int sheet, long region) {
            this.sheet = sheet;
            this.region = region;
        }
    }

    private static final class WorkPackage {
        private final int crew;
        private final int sheets;
        private int daysLeft;
        private long region = ALL_COLUMNS | ALL_ROWS;
        private int state = WAITING;
        private int stops = 0;

        private WorkPackage(int crew, int sheets, int days) {
            this.crew = crew;
            this.sheets = sheets;
            this.daysLeft = days;
        }

        private boolean isAtRest() {
            return state == WAITING || state == STOPPED;
        }

        private void workADay() {
            daysLeft--;
            if (daysLeft <= 0) {
                state = DONE;
            }
        }
    }
}
