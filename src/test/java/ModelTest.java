/** Long runs of made-up calls: the program and the model answer, and throw, the same. */
public final class ModelTest {
    private static final int RUNS = 1200;
    /** The document promises nothing of an object beyond so many calls. */
    private static final int CALLS = 512;
    private static final Check check = new Check("ModelTest");

    private final DraftsmanOffice office = new DraftsmanOffice();
    private final OfficeModel model = new OfficeModel();
    private final int oddness;
    private final int fewSheets;
    private final int fewTrades;
    private final int fewCrews;
    private long seed;
    private int made = 0;

    private ModelTest(int run) {
        this.seed = run * 7919L + 17;
        this.oddness = run % 4;
        this.fewSheets = 1 + run % 10;
        this.fewTrades = 1 + run / 10 % 4;
        this.fewCrews = 1 + run / 40 % 4;
    }

    public static void main(String[] args) {
        for (int run = 0; run < RUNS; run++) {
            new ModelTest(run).calls();
        }
        check.end();
    }

    private void calls() {
        while (made < CALLS) {
            if (oneOf(4) == 0) {
                ask();
            } else {
                change();
            }
            same("digest()", office::digest, model::digest);
        }
    }

    private void same(String call, Check.Call asked, Check.Call due) {
        if (made < CALLS) {
            made++;
            check.compare(call, Check.outcome(due), Check.outcome(asked));
        }
    }

    private void change() {
        if (model.many(0) < fewSheets && oneOf(2) == 0 || oneOf(200) == 0) {
            int trade = number(fewTrades);
            same("sheet()", () -> office.sheet(trade), () -> model.sheet(trade));
            return;
        }
        int sheet = number(model.many(0));
        switch (oneOf(18)) {
            case 0, 1 -> drawAndIssue(sheet);
            case 2 -> check(sheet);
            case 3 -> issue(sheet);
            case 4 -> refer(sheet);
            case 5 -> send();
            case 6 -> receive();
            case 7, 8 -> sendAndReceive();
            case 9 -> query(sheet);
            case 10, 11 -> answer();
            case 12 -> excuse(sheet);
            case 13, 14 -> pack();
            case 15 -> place();
            case 16 -> same("day()", office::day, model::day);
            default -> startAll();
        }
    }

    private void drawAndIssue(int sheet) {
        same("revise()", () -> office.revise(sheet), () -> model.revise(sheet));
        if (oneOf(2) == 0) {
            draw(sheet);
        }
        if (oneOf(3) == 0) {
            refer(sheet);
        }
        check(sheet);
        if (oneOf(3) > 0) {
            issue(sheet);
        }
    }

    private void check(int sheet) {
        same("check()", () -> office.check(sheet), () -> model.check(sheet));
    }

    private void issue(int sheet) {
        same("stoppedBy()", () -> office.stoppedBy(sheet), () -> model.stoppedBy(sheet));
        same("issue()", () -> office.issue(sheet), () -> model.issue(sheet));
    }

    private void draw(int sheet) {
        int[] region = region();
        int details = oneOf(3) == 0 ? number(256) : 255 - oneOf(4);
        same("draw()", () -> office.draw(sheet, region[0], region[1], region[2], region[3], details),
                () -> model.draw(sheet, region[0], region[1], region[2], region[3], details));
    }

    private void refer(int sheet) {
        int to = number(model.many(0));
        int detail = number(8);
        same("refer()", () -> office.refer(sheet, to, detail), () -> model.refer(sheet, to, detail));
    }

    private void send() {
        int crews = number(16);
        int sheets = setOfSheets();
        same("send()", () -> office.send(crews, sheets), () -> model.send(crews, sheets));
    }

    private void sendAndReceive() {
        int crew = oneOf(fewCrews);
        int sheets = 0;
        for (int sheet = 0; sheet < model.many(0); sheet++) {
            sheets |= model.ofSheet(sheet, 2) < 0 ? 0 : 1 << sheet;
        }
        int issued = sheets;
        same("send()", () -> office.send(1 << crew, issued), () -> model.send(1 << crew, issued));
        int last = model.many(3) - 1;
        if (oneOf(3) > 0) {
            same("receive()", () -> office.receive(last, crew), () -> model.receive(last, crew));
        }
    }

    private void receive() {
        int sending = number(model.many(3));
        int crew = number(4);
        same("receive()", () -> office.receive(sending, crew), () -> model.receive(sending, crew));
    }

    private void query(int sheet) {
        int[] region = region();
        same("query()", () -> office.query(sheet, region[0], region[1], region[2], region[3]),
                () -> model.query(sheet, region[0], region[1], region[2], region[3]));
    }

    private void answer() {
        int query = number(model.many(4));
        boolean isChange = oneOf(2) == 0;
        same("answer()", () -> office.answer(query, isChange), () -> model.answer(query, isChange));
    }

    private void excuse(int sheet) {
        int other = number(model.many(0));
        same("excuse()", () -> Check.number(office.excuse(sheet, other)),
                () -> Check.number(model.excuse(sheet, other)));
    }

    private void pack() {
        int crew = oneOf(20) == 0 ? number(4) : oneOf(fewCrews);
        int sheets = setOfSheets();
        int days = oneOf(2) == 0 ? 1 : 1 + number(9);
        if (oneOf(2) == 0) {
            same("pack()", () -> office.pack(crew, sheets, days), () -> model.pack(crew, sheets, days));
            int last = model.many(7) - 1;
            same("start()", () -> office.start(last), () -> model.start(last));
        }
    }

    private void place() {
        int pack = number(model.many(7));
        int[] region = region();
        same("place()", () -> office.place(pack, region[0], region[1], region[2], region[3]),
                () -> model.place(pack, region[0], region[1], region[2], region[3]));
    }

    private void startAll() {
        for (int pack = -1; pack <= model.many(7); pack++) {
            int started = pack;
            same("start()", () -> office.start(started), () -> model.start(started));
        }
    }

    private void ask() {
        int sheet = number(model.many(0));
        int other = number(model.many(0));
        int x = number(20);
        int y = number(20);
        int what = number(13);
        int reference = number(model.many(1));
        same("ofSheet()", () -> office.ofSheet(sheet, what), () -> model.ofSheet(sheet, what));
        same("status()", () -> office.status(sheet, what), () -> model.status(sheet, what));
        same("holds()", () -> Check.number(office.holds(reference)), () -> Check.number(model.holds(reference)));
        same("has()", () -> office.has(x, sheet), () -> model.has(x, sheet));
        same("clash()", () -> office.clash(sheet, other), () -> model.clash(sheet, other));
        same("clouds()", () -> office.clouds(sheet, x, y), () -> model.clouds(sheet, x, y));
        same("ofPack()", () -> office.ofPack(x, what), () -> model.ofPack(x, what));
        same("many()", () -> office.many(what), () -> model.many(what));
        same("owes()", () -> office.owes(x), () -> model.owes(x));
        same("ofQuery()", () -> office.ofQuery(y), () -> model.ofQuery(y));
        same("stoppedBy()", () -> office.stoppedBy(sheet), () -> model.stoppedBy(sheet));
        same("freedBy()", () -> office.freedBy(y), () -> model.freedBy(y));
        same("freedByAll()", () -> office.freedByAll(x), () -> model.freedByAll(x));
        same("meanRevisions()", () -> Double.doubleToLongBits(office.meanRevisions()),
                () -> Double.doubleToLongBits(model.meanRevisions()));
    }

    /** A number from 0 on below a bound, and now and then, more often in some runs, one that is not. */
    private int number(int bound) {
        int[] odd = {-1, bound, bound + 1, Integer.MIN_VALUE, Integer.MAX_VALUE, -bound, 31, 32};
        if (oneOf(200) < oddness * 4) {
            return odd[oneOf(odd.length)];
        }
        return oneOf(Math.max(bound, 1));
    }

    private int setOfSheets() {
        int all = 1 << model.many(0);
        return oneOf(2) == 0 ? 1 << oneOf(Math.max(model.many(0), 1)) : number(all);
    }

    private int[] region() {
        int x = number(20);
        int y = number(20);
        int width = oneOf(3) == 0 ? 20 : 7;
        int toX = oneOf(30) == 0 ? number(20) : Math.min(19, x + oneOf(width));
        int toY = oneOf(30) == 0 ? number(20) : Math.min(19, y + oneOf(width));
        return new int[] {x, y, toX, toY};
    }

    private int oneOf(int bound) {
        seed = seed * 6364136223846793005L + 1442695040888963407L;
        return (int) ((seed >>> 33) % bound);
    }
}
