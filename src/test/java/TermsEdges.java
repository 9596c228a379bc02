/** The sentences of what the program is and of the terms: needles, yarn, pattern and courses. */
final class TermsEdges extends Edge {
    private static final int TERMS = Document.TERMS;
    private static final Setup FULL = bed(0, 23);

    private TermsEdges() {
    }

    static void run() {
        callsOfOneObject();
        needles();
        loopsAndHolds();
        agesOfLoops();
        outOfWork();
        feeders();
        firstSettings();
        patternLimits();
        rowsAndColumns();
        knitAndSlipped();
        limitOfCourses();
        whatKnits();
        yarnOfStitches();
        loopsAfterCourse();
        aging();
        severalLoops();
        transferToNoLoops();
    }

    private static void callsOfOneObject() {
        sentence(Document.WHAT_IT_IS, "An object is used for at most 512 calls after it has been made; what later calls"
                + " answer is free.");
        answers("the call 512, after changes", 511 % 9 + 1, times(511, TermsEdges::nextTension), ShawlKnitter::tension);
        answers("the call 512, undo()", 7, times(511, (knitter, call) -> knitter.setTension(call % 9 + 1)),
                ShawlKnitter::undo);
        answers("the call 512, after rejections", 3, times(511, (knitter, call) -> Check.outcome(knitter::castOff)),
                ShawlKnitter::rejectionReason);
        answers("the call 512, after questions", 24, times(511, (knitter, call) -> knitter.stitchesIn(10)),
                ShawlKnitter::writeBed);
        answers("the call 512, after inputs", 7, times(255, TermsEdges::typeAndExecute), knitter -> {
            knitter.selectFeeder(1);
            return knitter.undo();
        });
        answers("the call 511, after undos", 3, times(255, (knitter, call) -> {
            knitter.setTension(9);
            return knitter.undo();
        }), ShawlKnitter::tension);
        answers("the call 511, after snapshots", 0, times(255, (knitter, call) -> {
            knitter.saveSnapshot();
            return knitter.restoreSnapshot();
        }), ShawlKnitter::restoreSnapshot);
    }

    private static Setup times(int count, AskingByIndex asking) {
        return knitter -> {
            for (int call = 0; call < count; call++) {
                asking.of(knitter, call);
            }
        };
    }

    private static int nextTension(ShawlKnitter knitter, int call) {
        return knitter.setTension((call + 1) % 9 + 1);
    }

    private static int typeAndExecute(ShawlKnitter knitter, int call) {
        knitter.appendInput('q');
        return knitter.execute();
    }

    // ---- needles

    private static void needles() {
        sentence(TERMS, "The bed has 24 needles, numbered from 0 to 23.");
        answers("castOn(0, 23)", 24, NEW, knitter -> knitter.castOn(0, 23));
        boundsAre(24, NO_INDEX, "isInWork", NEW, false, ShawlKnitter::isInWork);
        boundsAre(24, NO_INDEX, "castOn to the last one from", NEW, true,
                (knitter, needle) -> knitter.castOn(needle, 23) == 24 - needle);
        boundsAre(24, NO_INDEX, "castOn from the first one to", NEW, true,
                (knitter, needle) -> knitter.castOn(0, needle) == needle + 1);
        answers("writeBed()", 24, NEW, ShawlKnitter::writeBed);
        sentence(TERMS, "A needle is in work or not; no needle is in work at first.");
        indexesAre(24, "isInWork at first", NEW, false, ShawlKnitter::isInWork);
        indexesAre(24, "isInWork", FULL, true, ShawlKnitter::isInWork);
        answers("needlesInWork()", 0, NEW, ShawlKnitter::needlesInWork);
    }

    private static void loopsAndHolds() {
        sentence(TERMS, "A needle in work has 0 to 3 loops, and can be on hold.");
        for (int count = 0; count <= 3; count++) {
            Setup setup = and(bed(7, 7), count == 0 ? drop(7) : loops(7, count));
            answers("loopsOn(7)", count, setup, knitter -> knitter.loopsOn(7));
            answers("hold(7)", 1, setup, knitter -> knitter.hold(7));
            answers("loopsOn(7) on hold", count, and(setup, hold(7)), knitter -> knitter.loopsOn(7));
        }
        rejects("a fourth loop for 7", ShawlKnitter.LOOP_LIMIT, 4, and(bed(7, 7), loops(7, 3), bed(8, 8)),
                knitter -> knitter.transfer(8, false));
        rejects("pickUp(7) with 3 loops", ShawlKnitter.HAS_LOOPS, 3, and(bed(7, 7), loops(7, 3), yarn(0, 9)),
                knitter -> knitter.pickUp(7));
    }

    private static void agesOfLoops() {
        sentence(TERMS, "The loops of a needle have an age.");
        for (int age = 0; age <= 5; age++) {
            answers("ageOn(7)", age, aged(7, 2, age), knitter -> knitter.ageOn(7));
        }
        refuses("ageOn(7) of an age of 6", NO_ELEMENT, aged(7, 2, 6), knitter -> knitter.ageOn(7));
        refuses("ageOn(7) without loops", NO_ELEMENT, and(aged(7, 2, 3), drop(7)), knitter -> knitter.ageOn(7));
    }

    /** A needle on hold whose loops are as old as the courses that the needle 0 has knit with the tension 1. */
    private static Setup aged(int needle, int loops, int courses) {
        return and(shawl(0), bed(needle, needle), loops(needle, loops), hold(needle), courses(courses));
    }

    private static void outOfWork() {
        sentence(TERMS, "A needle that is not in work has no loops and is not on hold.");
        Setup[] ways = {NEW, and(FULL, hold(7), ShawlKnitter::castOff),
            and(bed(7, 8), hold(7), knitter -> knitter.transfer(7, true)), and(bed(7, 7), hold(7), undoTwice())};
        for (Setup way : ways) {
            answers("isInWork(7)", false, way, knitter -> knitter.isInWork(7));
            answers("loopsOn(7)", 0, way, knitter -> knitter.loopsOn(7));
            answers("isOnHold(7)", false, way, knitter -> knitter.isOnHold(7));
            rejects("hold(7)", ShawlKnitter.NOT_IN_WORK, 7, way, knitter -> knitter.hold(7));
            rejects("release(7)", ShawlKnitter.NOT_ON_HOLD, 7, way, knitter -> knitter.release(7));
            refuses("ageOn(7)", NO_ELEMENT, way, knitter -> knitter.ageOn(7));
            answers("isOnHold(7) in work again", false, and(way, bed(7, 7)), knitter -> knitter.isOnHold(7));
            answers("loopsOn(7) in work again", 1, and(way, bed(7, 7)), knitter -> knitter.loopsOn(7));
        }
    }

    private static Setup undoTwice() {
        return knitter -> {
            knitter.undo();
            knitter.undo();
        };
    }

    // ---- yarn and tension

    private static void feeders() {
        sentence(TERMS, "There are 4 feeders, numbered from 0 to 3, each with 0 to 200 units of yarn, and with none at"
                + " first.");
        boundsAre(4, NO_INDEX, "yarnIn", NEW, 0, ShawlKnitter::yarnIn);
        boundsAre(4, NO_INDEX, "selectFeeder", NEW, 0, ShawlKnitter::selectFeeder);
        for (int index = 0; index < 4; index++) {
            int feeder = index;
            answers("addYarn(" + feeder + ", 1) to 199", 200, yarn(feeder, 199), knitter -> knitter.addYarn(feeder, 1));
            rejects("addYarn(" + feeder + ", 1) to 200", ShawlKnitter.YARN_LIMIT, 200, yarn(feeder, 200),
                    knitter -> knitter.addYarn(feeder, 1));
            Setup used = and(bed(0, 0), yarn(feeder, 3), feeder(feeder), courses(1));
            answers("yarnIn(" + feeder + ") after the last unit", 0, used, knitter -> knitter.yarnIn(feeder));
            rejects("knit(1) after the last unit", ShawlKnitter.NO_YARN, 3, used, knitter -> knitter.knit(1));
        }
    }

    private static void firstSettings() {
        sentence(TERMS, "One feeder is active, at first the feeder 0.");
        answers("activeFeeder()", 0, NEW, ShawlKnitter::activeFeeder);
        answers("selectFeeder(2)", 0, NEW, knitter -> knitter.selectFeeder(2));
        answers("activeFeeder() after feeders have got yarn", 0, and(yarn(3, 9), yarn(1, 9)),
                ShawlKnitter::activeFeeder);
        answers("activeFeeder() after two were selected", 1, and(feeder(2), feeder(1)), ShawlKnitter::activeFeeder);
        sentence(TERMS, "The tension is 3 at first.");
        answers("tension()", 3, NEW, ShawlKnitter::tension);
        answers("yarnOf(0)", 3, and(bed(0, 0), yarn(0, 9), courses(1)), knitter -> knitter.yarnOf(0));
    }

    // ---- pattern

    private static void patternLimits() {
        sentence(TERMS, "The pattern has at most 6 rows of 8 columns, and no rows at first.");
        answers("patternRows()", 0, NEW, ShawlKnitter::patternRows);
        refuses("isKnit(0, 0)", NO_INDEX, NEW, knitter -> knitter.isKnit(0, 0));
        answers("a sixth row", 6, rows(1, 2, 3, 4, 5), knitter -> knitter.addPatternRow(255));
        rejects("a seventh row", ShawlKnitter.PATTERN_LIMIT, 6, rows(1, 2, 3, 4, 5, 6),
                knitter -> knitter.addPatternRow(255));
        answers("the column 7", true, rows(0x80), knitter -> knitter.isKnit(0, 7));
        refuses("a column 8", NO_INDEX, rows(255), knitter -> knitter.isKnit(0, 8));
        refuses("a mask of 9 columns", BAD_ARGUMENT, NEW, knitter -> knitter.addPatternRow(256));
    }

    private static void rowsAndColumns() {
        sentence(TERMS, "The course with the index c is knit by the row c mod r of the pattern, where r is the number"
                + " of its rows, and the needle n by the column n mod 8 of this row.");
        for (int rows = 1; rows <= 6; rows++) {
            Setup pattern = diagonal(rows);
            for (int course = 0; course <= 13; course++) {
                int row = course % rows;
                answers("willKnit in the course " + course + " of " + rows + " rows", "true 1",
                        and(bed(0, 7), yarn(0, 200), tension(1), pattern, courses(course)),
                        knitter -> knitter.willKnit(row) + " " + knitter.nextWidth());
            }
            int row = 29 % rows;
            answers("willKnit in the last course of " + rows + " rows", true, and(shawl(29), bed(1, 7), pattern),
                    knitter -> knitter.willKnit(row) && knitter.nextWidth() == 1);
        }
        for (int needle = 0; needle < 24; needle++) {
            int n = needle;
            int bit = 1 << n % 8;
            answers("willKnit(" + n + ") by its column", true, and(bed(n, n), rows(bit)),
                    knitter -> knitter.willKnit(n));
            answers("willKnit(" + n + ") by the others", false, and(bed(n, n), rows(255 - bit)),
                    knitter -> knitter.willKnit(n));
        }
    }

    /** The row k knits the column k alone. */
    private static Setup diagonal(int rows) {
        return knitter -> {
            for (int row = 0; row < rows; row++) {
                knitter.addPatternRow(1 << row);
            }
        };
    }

    private static void knitAndSlipped() {
        sentence(TERMS, "If the bit of the column is set in the row, the stitch is knit; otherwise it is slipped.");
        Setup half = and(FULL, yarn(0, 200), rows(0x0F), courses(1));
        for (int needle = 0; needle < 24; needle++) {
            int n = needle;
            answers("ageOn(" + n + ")", n % 8 < 4 ? 0 : 1, half, knitter -> knitter.ageOn(n));
        }
        answers("widthOf(0)", 12, half, knitter -> knitter.widthOf(0));
        sentence(TERMS, "If the pattern has no rows, all stitches are knit.");
        answers("knit(1)", 24, and(FULL, yarn(0, 72)), knitter -> knitter.knit(1));
        answers("knit(1) after clearPattern()", 24, and(FULL, yarn(0, 72), rows(0), ShawlKnitter::clearPattern),
                knitter -> knitter.knit(1));
        rejects("knit(1) with a row without bits", ShawlKnitter.NOTHING_TO_KNIT, 0, and(FULL, yarn(0, 72), rows(0)),
                knitter -> knitter.knit(1));
    }

    // ---- courses

    private static void limitOfCourses() {
        sentence(TERMS, "A shawl has at most 30 courses, numbered from 0.");
        answers("a course 29", 1, shawl(29), knitter -> knitter.knit(1));
        rejects("a course 30", ShawlKnitter.COURSE_LIMIT, 30, shawl(30), knitter -> knitter.knit(1));
        rejects("the courses 29 and 30", ShawlKnitter.COURSE_LIMIT, 30, shawl(29), knitter -> knitter.knit(2));
        answers("widthOf(0) of one course", 1, shawl(1), knitter -> knitter.widthOf(0));
        refuses("widthOf(1) of one course", NO_INDEX, shawl(1), knitter -> knitter.widthOf(1));
        answers("widthOf(29) of 30 courses", 1, shawl(30), knitter -> knitter.widthOf(29));
        answers("a course 29 after undo()", 1, and(shawl(29), courses(1), ShawlKnitter::undo),
                knitter -> knitter.knit(1));
        answers("30 courses of the next shawl", 10, and(shawl(30), ShawlKnitter::castOff, bed(0, 0), courses(20)),
                knitter -> knitter.knit(10));
    }

    private static void whatKnits() {
        sentence(TERMS, "In a course, a needle knits if it is in work, is not on hold and has loops, and its stitch is"
                + " knit by the pattern.");
        Setup ready = and(shawl(0), bed(4, 4), rows(0x11));
        answers("all of it", "true 2", ready, TermsEdges::knitsFour);
        answers("not in work", "false 1", and(shawl(0), rows(0x11)), TermsEdges::knitsFour);
        answers("on hold", "false 1", and(ready, hold(4)), TermsEdges::knitsFour);
        answers("without loops", "false 1", and(ready, drop(4)), TermsEdges::knitsFour);
        answers("slipped", "false 1", and(shawl(0), bed(4, 4), rows(0x01)), TermsEdges::knitsFour);
        answers("released", "true 2", and(ready, hold(4), knitter -> knitter.release(4)), TermsEdges::knitsFour);
        answers("picked up", "true 2", and(ready, drop(4), knitter -> knitter.pickUp(4)), TermsEdges::knitsFour);
        sentence(TERMS, "The width of the course is the number of needles that knit.");
        for (int width = 1; width <= 24; width++) {
            int count = width;
            answers("widthOf(0)", count, and(bed(24 - count, 23), yarn(0, 24), tension(1), courses(1)),
                    knitter -> knitter.widthOf(0));
        }
        answers("widthOf(0) of a needle with 3 loops", 1, and(bed(9, 9), loops(9, 3), yarn(0, 3), courses(1)),
                knitter -> knitter.widthOf(0));
        rejects("a width of 0", ShawlKnitter.NOTHING_TO_KNIT, 0, yarn(0, 99), knitter -> knitter.knit(1));
    }

    private static String knitsFour(ShawlKnitter knitter) {
        return knitter.willKnit(4) + " " + knitter.knit(1);
    }

    private static void yarnOfStitches() {
        sentence(TERMS, "Each stitch takes as many units of yarn from the active feeder as the tension says.");
        for (int tension = 1; tension <= 9; tension++) {
            int needed = 3 * tension;
            Setup setup = and(bed(21, 23), tension(tension), yarn(0, 50), yarn(2, needed), feeder(2));
            answers("yarnIn(2) after a course with all of it", 0, and(setup, courses(1)), knitter -> knitter.yarnIn(2));
            answers("yarnIn(0) after it", 50, and(setup, courses(1)), knitter -> knitter.yarnIn(0));
            answers("yarnOf(0)", needed, and(setup, courses(1)), knitter -> knitter.yarnOf(0));
            Setup less = and(bed(21, 23), tension(tension), yarn(0, 50), yarn(2, needed - 1), feeder(2));
            rejects("a course with one unit less", ShawlKnitter.NO_YARN, needed, less, knitter -> knitter.knit(1));
        }
    }

    private static void loopsAfterCourse() {
        sentence(TERMS, "After the course, a needle that has knit has one loop of age 0.");
        for (int age = 0; age <= 5; age++) {
            for (int count = 1; count <= 3; count++) {
                Setup knit = and(aged(7, count, age), knitter -> knitter.release(7), courses(1));
                answers("loopsOn(7)", 1, knit, knitter -> knitter.loopsOn(7));
                answers("ageOn(7)", 0, knit, knitter -> knitter.ageOn(7));
            }
        }
    }

    private static void aging() {
        sentence(TERMS, "The age of the loops of every other needle increases by 1; if it is 6 then, all loops of this"
                + " needle drop, and the needle stays in work.");
        for (int count = 1; count <= 3; count++) {
            for (int age = 0; age <= 4; age++) {
                answers("ageOn(7) on hold", age + 1, and(aged(7, count, age), courses(1)), knitter -> knitter.ageOn(7));
                answers("loopsOn(7) on hold", count, and(aged(7, count, age), courses(1)),
                        knitter -> knitter.loopsOn(7));
                answers("ageOn(7) slipped", age + 1, and(aged(7, count, age), knitter -> knitter.release(7), rows(1),
                        courses(1)), knitter -> knitter.ageOn(7));
            }
            Setup held = and(aged(7, count, 5), courses(1));
            Setup slipped = and(aged(7, count, 5), knitter -> knitter.release(7), rows(1), courses(1));
            answers("the bed with 7 on hold", "1......h................", held, Edge::bedOf);
            answers("the bed with 7 slipped", "1......o................", slipped, Edge::bedOf);
            answers("dropsOf(5)", count, held, knitter -> knitter.dropsOf(5));
            answers("dropsOf(5) of slipped ones", count, slipped, knitter -> knitter.dropsOf(5));
            answers("dropsOf(4)", 0, held, knitter -> knitter.dropsOf(4));
            answers("droppedLoops() after another course", count, and(held, courses(1)), ShawlKnitter::droppedLoops);
        }
        answers("loopsOn(7) that is picked up later and slipped for 5 courses", 1,
                and(aged(7, 1, 6), knitter -> knitter.pickUp(7), courses(5)), knitter -> knitter.loopsOn(7));
        answers("loopsOn(7) that is picked up later and slipped for 6 courses", 0,
                and(aged(7, 1, 6), knitter -> knitter.pickUp(7), courses(6)), knitter -> knitter.loopsOn(7));
    }

    // ---- further rules

    private static void severalLoops() {
        sentence(TERMS, "A needle with several loops that knits has one loop after the course, and none of its loops is"
                + " dropped by this.");
        for (int count = 2; count <= 3; count++) {
            Setup knit = and(shawl(0), bed(7, 7), loops(7, count), courses(1));
            answers("loopsOn(7)", 1, knit, knitter -> knitter.loopsOn(7));
            answers("droppedLoops()", 0, knit, ShawlKnitter::droppedLoops);
            answers("dropsOf(0)", 0, knit, knitter -> knitter.dropsOf(0));
            answers("dropsIn(1) ahead of it", 0, and(shawl(0), bed(7, 7), loops(7, count)),
                    knitter -> knitter.dropsIn(1));
            Setup late = and(aged(7, count, 5), knitter -> knitter.release(7), courses(1));
            answers("droppedLoops() at the age 5", 0, late, ShawlKnitter::droppedLoops);
        }
    }

    private static void transferToNoLoops() {
        sentence(TERMS, "When loops are transferred to a needle without loops, their age does not change.");
        for (int age = 0; age <= 5; age++) {
            Setup moved = aged(7, 2, age);
            Setup dropped = and(moved, bed(8, 8), drop(8), knitter -> knitter.transfer(7, true));
            answers("ageOn(8), whose loop was new", age, dropped, knitter -> knitter.ageOn(8));
            Setup since = and(shawl(0), bed(6, 7), loops(7, 2), hold(7), hold(6), courses(5 - age), drop(6),
                    TermsEdges::renewSeven, courses(age), knitter -> knitter.transfer(7, false));
            answers("ageOn(6), whose loop was older", age, since, knitter -> knitter.ageOn(6));
            Setup fallen = and(shawl(0), bed(6, 6), hold(6), courses(6), bed(7, 7), hold(7), courses(age),
                    knitter -> knitter.transfer(7, false));
            answers("ageOn(6), whose loop had dropped at the end of a course", age, fallen,
                    knitter -> knitter.ageOn(6));
            for (int empty = age; empty <= 7; empty++) {
                Setup waiting = and(shawl(0), bed(6, 6), drop(6), courses(empty - age), bed(7, 7), hold(7),
                        courses(age), knitter -> knitter.transfer(7, false));
                answers("ageOn(6), which had no loops for " + empty + " courses", age, waiting,
                        knitter -> knitter.ageOn(6));
            }
        }
    }

    private static void renewSeven(ShawlKnitter knitter) {
        knitter.dropStitch(7);
        knitter.pickUp(7);
    }
}
