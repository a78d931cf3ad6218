/** The bounds of what is GOOD for a PACKAGE and of what is STOPPED ("Terms" 5): each method stands for one sentence. */
public final class GoodBoundsTest {
    private static final Bounds bounds = new Bounds("GoodBoundsTest");

    public static void main(String[] args) {
        good();
        notIssued();
        crewHasNotThatOne();
        referenceBroken();
        cloudOverRegion();
        cloudOfClash();
        threeMarks();
        firstOfThese();
        stoppedByIssue();
        stoppedByRefer();
        stoppedByQuery();
        stoppedByExcuse();
        stoppedByPlace();
        stoppedByDay();
        stoppedEach();
        runningAlone();
        notByOtherCalls();
        notByAnotherSheet();
        bounds.end();
    }

    /** What is wrong for a package of the crew 0 that needs the first sheet. */
    private static int wrong(DraftsmanOffice office) {
        return office.ofPack(office.pack(0, 1, 5), 5);
    }

    private static void good() {
        bounds.sentence("a SHEET is GOOD for it, if nothing of this is wrong with it");
        bounds.taken("issued, with its crew", 0, Given::handedSheet, GoodBoundsTest::wrong);
        bounds.taken("with a draft beside it", 0, Given::handedSheet, office -> {
            office.revise(0);
            return wrong(office);
        });
        bounds.taken("with a checked one beside it", 0, Given::handedSheet, office -> {
            office.revise(0);
            office.check(0);
            return wrong(office);
        });
    }

    private static void notIssued() {
        bounds.sentence("wrong 1: it has no ISSUED REVISION");
        bounds.taken("a draft", 1, () -> Given.sheets(1), GoodBoundsTest::wrong);
        bounds.taken("a checked one", 1, () -> Given.sheets(1), office -> {
            office.check(0);
            return wrong(office);
        });
        bounds.taken("an issued one", 2, () -> Given.issuedSheets(1), GoodBoundsTest::wrong);
    }

    private static void crewHasNotThatOne() {
        bounds.sentence("wrong 2: the CREW HAS not that one");
        bounds.taken("it has none", 2, () -> Given.issuedSheets(1), GoodBoundsTest::wrong);
        bounds.taken("it was sent", 2, () -> Given.issuedSheets(1), office -> {
            office.send(15, 1);
            return wrong(office);
        });
        for (int i = 1; i <= 3; i++) {
            int crew = i;
            bounds.taken("the crew " + crew + " has it", 2, () -> Given.issuedSheets(1), office -> {
                Given.hand(office, crew, 1);
                return wrong(office);
            });
        }
        bounds.taken("it has the one before", 2, Given::handedSheet, office -> {
            Given.reissue(office, 0);
            return wrong(office);
        });
        bounds.taken("it has that one", 0, Given::handedSheet, office -> {
            Given.reissue(office, 0);
            Given.hand(office, 0, 1);
            return wrong(office);
        });
        bounds.taken("it has another sheet", 2, () -> Given.issuedSheets(2), office -> {
            Given.hand(office, 0, 2);
            return wrong(office);
        });
    }

    private static void referenceBroken() {
        bounds.sentence("wrong 3: a REFERENCE from it is BROKEN");
        bounds.taken("none is", 0, () -> referring(255, 0), GoodBoundsTest::wrong);
        bounds.taken("the last of 20 is", 3, () -> referring(127, 0), GoodBoundsTest::wrong);
        bounds.taken("one to it is", 0, () -> referring(127, 1), GoodBoundsTest::wrong);
    }

    /** Twenty references from one of two sheets to the other, only the last of them to the detail 7. */
    private static DraftsmanOffice referring(int details, int from) {
        DraftsmanOffice office = Given.sheets(2);
        office.draw(0, 0, 0, 0, 0, details);
        office.draw(1, 0, 0, 0, 0, details);
        Given.issue(office, 0);
        Given.issue(office, 1);
        Given.hand(office, 0, 3);
        office.revise(from);
        for (int i = 0; i < 19; i++) {
            office.refer(from, 1 - from, i % 7);
        }
        office.refer(from, 1 - from, 7);
        return office;
    }

    private static void cloudOverRegion() {
        bounds.sentence("wrong 4: a CLOUD on it is over a FIELD of the REGION of the PACKAGE");
        int[][] clouds = {
            {5, 5, 5, 5, 4}, {9, 9, 9, 9, 4}, {0, 0, 5, 5, 4}, {9, 9, 19, 19, 4}, {0, 0, 19, 19, 4}, {7, 0, 7, 5, 4},
            {0, 7, 5, 7, 4}, {4, 4, 4, 4, 0}, {10, 10, 10, 10, 0}, {0, 0, 4, 19, 0}, {10, 0, 19, 19, 0},
            {0, 0, 19, 4, 0}, {0, 10, 19, 19, 0},
        };
        for (int[] at : clouds) {
            bounds.taken("a cloud " + Bounds.written(at) + " and the package 5, 5 to 9, 9", at[4], Given::handedSheet,
                    office -> {
                        office.query(0, at[0], at[1], at[2], at[3]);
                        office.pack(0, 1, 5);
                        office.place(0, 5, 5, 9, 9);
                        return office.ofPack(0, 5);
                    });
        }
        bounds.taken("a cloud on another sheet", 0, () -> Given.handedSheets(2), office -> {
            office.query(1, 0, 0, 19, 19);
            return wrong(office);
        });
    }

    private static void cloudOfClash() {
        bounds.sentence("wrong 4: a CLOUD of a CLASH");
        int[][] places = {{9, 9, 9, 9, 4}, {0, 0, 5, 5, 4}, {0, 0, 4, 4, 0}, {10, 10, 19, 19, 0}, {5, 10, 9, 19, 0}};
        for (int[] at : places) {
            for (int i = 0; i <= 1; i++) {
                int sheet = i;
                bounds.taken("a clash 5, 5 to 9, 9 and the package " + Bounds.written(at), at[4], DraftsmanOffice::new,
                        office -> {
                            Given.addIssued(office, 0, 0, 0, 9, 9, 0);
                            Given.addIssued(office, 1, 5, 5, 19, 19, 0);
                            Given.hand(office, 0, 3);
                            office.pack(0, 1 << sheet, 5);
                            office.place(0, at[0], at[1], at[2], at[3]);
                            return office.ofPack(0, 5);
                        });
            }
        }
    }

    private static void threeMarks() {
        bounds.sentence("wrong 5: it has 3 MARKS or more");
        for (int i = 0; i <= 7; i++) {
            int marks = i;
            bounds.taken(marks + " marks", marks >= 3 ? 5 : 0, Given::handedSheet, office -> {
                Given.marks(office, 0, 1, marks);
                return wrong(office);
            });
        }
        bounds.taken("3 marks on another sheet", 0, () -> Given.handedSheets(2), office -> {
            Given.marks(office, 0, 2, 3);
            return wrong(office);
        });
        bounds.taken("3 marks, and a new revision begun", 0, Given::handedSheet, office -> {
            Given.marks(office, 0, 1, 3);
            office.revise(0);
            return wrong(office);
        });
    }

    /** All of 2 to 5 is wrong, and then one thing after the other is mended. */
    private static void firstOfThese() {
        bounds.sentence("what is wrong is the first of these");
        bounds.taken("1 and 2", 1, () -> Given.sheets(1), GoodBoundsTest::wrong);
        bounds.taken("1, 2 and 3", 1, () -> Given.sheets(2), office -> {
            office.refer(0, 1, 0);
            return wrong(office);
        });
        DraftsmanOffice office = new DraftsmanOffice();
        Given.addIssued(office, 0, 0, 0, 0, 0, 0);
        Given.addIssued(office, 0, 0, 0, 0, 0, 1);
        office.revise(0);
        office.refer(0, 1, 0);
        office.check(0);
        Given.hand(office, 1, 1);
        Given.marks(office, 1, 1, 3);
        office.query(0, 0, 0, 0, 0);
        office.revise(1);
        office.draw(1, 0, 0, 0, 0, 2);
        Given.issue(office, 1);
        office.pack(0, 1, 1);
        bounds.due("2, 3, 4 and 5", 2, office.ofPack(3, 5));
        Given.hand(office, 0, 1);
        bounds.due("3, 4 and 5", 3, office.ofPack(3, 5));
        office.revise(1);
        office.draw(1, 0, 0, 0, 0, 1);
        Given.issue(office, 1);
        bounds.due("4 and 5", 4, office.ofPack(3, 5));
        office.answer(0, false);
        bounds.due("5", 5, office.ofPack(3, 5));
    }

    /** Two sheets that the crew 0 has, with a package that runs by the first of them. */
    private static DraftsmanOffice running() {
        DraftsmanOffice office = Given.handedSheets(2);
        Given.startNew(office, 0, 1, 5);
        return office;
    }

    private static void stoppedByIssue() {
        bounds.sentence("at the end of a call each that needs a SHEET that is not GOOD is STOPPED: issue");
        bounds.taken("it is superseded", 2, GoodBoundsTest::running, office -> {
            Given.reissue(office, 0);
            return office.ofPack(0, 2);
        });
        bounds.taken("a clash comes", 2, GoodBoundsTest::running, office -> {
            Given.addIssued(office, 1, 0, 0, 0, 0, 0);
            return office.ofPack(0, 2);
        });
        bounds.taken("a clash comes beside it", 1, GoodBoundsTest::running, office -> {
            office.place(0, 1, 1, 19, 19);
            Given.addIssued(office, 1, 0, 0, 0, 0, 0);
            return office.ofPack(0, 2);
        });
        bounds.taken("a detail goes", 2, GoodBoundsTest::runningByDetail, office -> {
            office.revise(1);
            office.draw(1, 0, 0, 0, 0, 254);
            bounds.due("it is not gone with a draft", 1, office.ofPack(0, 2));
            Given.issue(office, 1);
            return office.ofPack(0, 2);
        });
        bounds.taken("the detail stays", 1, GoodBoundsTest::runningByDetail, office -> {
            office.revise(1);
            office.draw(1, 0, 0, 0, 0, 1);
            Given.issue(office, 1);
            return office.ofPack(0, 2);
        });
    }

    private static DraftsmanOffice runningByDetail() {
        DraftsmanOffice office = Given.sheets(2);
        office.draw(1, 0, 0, 0, 0, 255);
        Given.issue(office, 1);
        office.refer(0, 1, 0);
        Given.issue(office, 0);
        Given.hand(office, 0, 1);
        Given.startNew(office, 0, 1, 5);
        return office;
    }

    private static void stoppedByRefer() {
        bounds.sentence("at the end of a call each that needs a SHEET that is not GOOD is STOPPED: refer");
        bounds.taken("a broken one from it", 2, GoodBoundsTest::running, office -> {
            office.revise(0);
            office.refer(0, 1, 0);
            return office.ofPack(0, 2);
        });
        bounds.taken("a broken one to it", 1, GoodBoundsTest::running, office -> {
            office.revise(1);
            office.refer(1, 0, 0);
            return office.ofPack(0, 2);
        });
        bounds.taken("one from it that holds", 1, GoodBoundsTest::runningByDetail, office -> {
            office.revise(0);
            office.refer(0, 1, 7);
            return office.ofPack(0, 2);
        });
    }

    private static void stoppedByQuery() {
        bounds.sentence("at the end of a call each that needs a SHEET that is not GOOD is STOPPED: query");
        bounds.taken("over its region", 2, GoodBoundsTest::running, office -> {
            office.query(0, 19, 0, 19, 0);
            return office.ofPack(0, 2);
        });
        bounds.taken("beside its region", 1, GoodBoundsTest::running, office -> {
            office.place(0, 0, 0, 18, 19);
            office.query(0, 19, 0, 19, 0);
            return office.ofPack(0, 2);
        });
    }

    private static void stoppedByExcuse() {
        bounds.sentence("at the end of a call each that needs a SHEET that is not GOOD is STOPPED: excuse");
        bounds.taken("not excused any more", 2, GoodBoundsTest::runningExcused, office -> {
            office.excuse(0, 2);
            return office.ofPack(0, 2);
        });
        bounds.taken("the other way round", 2, GoodBoundsTest::runningExcused, office -> {
            office.excuse(2, 0);
            return office.ofPack(0, 2);
        });
        bounds.taken("another one", 1, GoodBoundsTest::runningExcused, office -> {
            office.excuse(1, 2);
            return office.ofPack(0, 2);
        });
    }

    private static DraftsmanOffice runningExcused() {
        DraftsmanOffice office = running();
        office.sheet(1);
        office.excuse(0, 2);
        Given.issue(office, 2);
        return office;
    }

    private static void stoppedByPlace() {
        bounds.sentence("at the end of a call each that needs a SHEET that is not GOOD is STOPPED: place");
        for (int i = 0; i <= 1; i++) {
            int column = 5 + i;
            bounds.taken("a region to the column " + column, column == 6 ? 2 : 1, GoodBoundsTest::running, office -> {
                office.place(0, 0, 0, 0, 0);
                office.query(0, 6, 6, 6, 6);
                office.place(0, 0, 0, column, 19);
                return office.ofPack(0, 2);
            });
        }
    }

    private static void stoppedByDay() {
        bounds.sentence("at the end of a call each that needs a SHEET that is not GOOD is STOPPED: day");
        for (int i = 2; i <= 4; i++) {
            int marks = i;
            bounds.taken(marks + " marks", marks >= 3 ? 2 : 1, GoodBoundsTest::running, office -> {
                Given.marks(office, 0, 1, marks);
                return office.ofPack(0, 2);
            });
        }
        bounds.taken("it has worked that day", 4, GoodBoundsTest::running, office -> {
            Given.marks(office, 0, 1, 3);
            return office.ofPack(0, 3);
        });
        bounds.taken("those that are done that day are not stopped", 3, Given::handedSheet, office -> {
            Given.marks(office, 0, 1, 8);
            return office.ofPack(7, 2);
        });
        bounds.taken("nor were they", 0, Given::handedSheet, office -> {
            Given.marks(office, 0, 1, 8);
            return office.ofPack(7, 6);
        });
    }

    private static void stoppedEach() {
        bounds.sentence("each PACKAGE that is RUNNING, and needs a SHEET that is not GOOD, is STOPPED");
        DraftsmanOffice office = Given.handedSheets(10);
        for (int i = 0; i < 8; i++) {
            Given.startNew(office, 0, 1 << i | 512, 5);
        }
        office.query(9, 0, 0, 0, 0);
        for (int i = 0; i < 8; i++) {
            bounds.due("the package " + i, 2, office.ofPack(i, 2));
            bounds.due("how often", 1, office.ofPack(i, 6));
        }
        office.query(9, 0, 0, 0, 0);
        bounds.due("a stopped one is not stopped again", 1, office.ofPack(0, 6));
    }

    private static void runningAlone() {
        bounds.sentence("each PACKAGE that is RUNNING");
        DraftsmanOffice office = Given.handedSheet();
        Given.startNew(office, 0, 1, 1);
        office.day();
        office.pack(0, 1, 1);
        office.query(0, 0, 0, 0, 0);
        bounds.due("a done one", 3, office.ofPack(0, 2));
        bounds.due("it was not stopped", 0, office.ofPack(0, 6));
        bounds.due("a waiting one", 0, office.ofPack(1, 2));
        bounds.due("it was not stopped either", 0, office.ofPack(1, 6));
    }

    /** Calls that make no sheet worse let it run, and let a stopped one be stopped. */
    private static void notByOtherCalls() {
        bounds.sentence("a PACKAGE all whose SHEETS are GOOD is not STOPPED, and none goes on by itself");
        Bounds.Calling[] calls = {
            office -> office.sheet(1), office -> office.revise(0), office -> office.revise(1),
            GoodBoundsTest::reviseAndDraw, GoodBoundsTest::reviseAndCheck, office -> Given.reissue(office, 1),
            office -> office.send(15, 3), office -> office.receive(office.send(1, 3), 0),
            office -> office.query(1, 0, 0, 0, 0), office -> office.answer(0, true), office -> office.answer(0, false),
            office -> Check.number(office.excuse(0, 1)), office -> office.pack(0, 3, 9), office -> office.start(1),
            office -> office.place(0, 0, 0, 19, 19), office -> office.day(), office -> office.digest(),
        };
        for (int i = 0; i < calls.length; i++) {
            Bounds.Calling call = calls[i];
            DraftsmanOffice office = running();
            office.pack(0, 1, 9);
            office.query(1, 0, 0, 0, 0);
            call.on(office);
            bounds.due("it runs after the call " + i, 1, office.ofPack(0, 2));
            bounds.due("it was not stopped by the call " + i, 0, office.ofPack(0, 6));
        }
        DraftsmanOffice office = running();
        office.query(0, 0, 0, 0, 0);
        office.answer(0, false);
        office.day();
        bounds.due("its sheet is good again", Given.NONE, office.ofPack(0, 4));
        bounds.due("it is stopped still", 2, office.ofPack(0, 2));
    }

    private static long reviseAndDraw(DraftsmanOffice office) {
        office.revise(0);
        return office.draw(0, 19, 19, 19, 19, 0);
    }

    private static long reviseAndCheck(DraftsmanOffice office) {
        office.revise(0);
        return office.check(0);
    }

    private static void notByAnotherSheet() {
        bounds.sentence("and needs a SHEET that is not GOOD");
        for (int i = 0; i < 10; i++) {
            int clouded = i;
            bounds.taken("a cloud on " + clouded, clouded == 0 || clouded == 5 || clouded == 9 ? 2 : 1,
                    () -> Given.handedSheets(10), office -> {
                        Given.startNew(office, 0, 1 | 32 | 512, 5);
                        office.query(clouded, 0, 0, 0, 0);
                        return office.ofPack(0, 2);
                    });
        }
    }
}
