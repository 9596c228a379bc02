/** The sentences of promises 29 to 35: knitting and forecasts. */
final class KnittingEdges extends Edge {
    private static final Setup RICH = and(yarn(0, 200), tension(1));

    private KnittingEdges() {
    }

    static void run() {
        coursesOfOneCall();
        allOrNone();
        knitRejections();
        willKnit();
        nextWidth();
        stitchesIn();
        stitchesInWithoutLimits();
        dropsIn();
        dropsInWithoutLimits();
        coursesPossible();
    }

    /** The course 5 drops the loop of the needle 1, which alone the course 6 could knit. */
    private static Setup soonEmpty() {
        return and(bed(0, 1), yarn(0, 200), rows(1), courses(5), ShawlKnitter::clearPattern, rows(2, 1));
    }

    /** The course 5 drops the loop of the needle 1, which the course 6 would knit beside the needle 0. */
    private static Setup soonLessWide() {
        return and(bed(0, 1), yarn(0, 200), rows(1), courses(5), ShawlKnitter::clearPattern, rows(3, 1));
    }

    private static void coursesOfOneCall() {
        sentence(29, "- `courses`: the number of courses, 1 to 10");
        Setup two = and(bed(22, 23), RICH);
        for (int count = 1; count <= 10; count++) {
            int courses = count;
            answers("knit(" + courses + ")", 2 * courses, two, knitter -> knitter.knit(courses));
            answers("courseCount() after it", courses, and(two, courses(courses)), ShawlKnitter::courseCount);
        }
        sentence(29, "Throws `IllegalArgumentException` if courses is out of range");
        answers("knit(1)", 2, two, knitter -> knitter.knit(1));
        answers("knit(10)", 20, two, knitter -> knitter.knit(10));
        for (int courses : new int[] {0, -1, 11, Integer.MIN_VALUE, Integer.MAX_VALUE}) {
            refuses("knit(" + courses + ")", BAD_ARGUMENT, two, knitter -> knitter.knit(courses));
            refuses("knit(" + courses + ") with nothing to knit", BAD_ARGUMENT, NEW,
                    knitter -> knitter.knit(courses));
            refuses("knit(" + courses + ") after 30 courses", BAD_ARGUMENT, shawl(30),
                    knitter -> knitter.knit(courses));
        }
        sentence(29, "Returns the number of stitches that are knit.");
        answers("knit(1) of one needle", 1, and(bed(0, 0), RICH), knitter -> knitter.knit(1));
        answers("knit(8) of all needles", 192, and(bed(0, 23), RICH), knitter -> knitter.knit(8));
        answers("knit(2) of which the first drops a loop of the second", 2, soonLessWide(), knitter -> knitter.knit(2));
    }

    private static void allOrNone() {
        sentence(29, "Knits courses, either all of them or none.");
        Setup nine = and(bed(0, 0), yarn(0, 9), tension(1));
        answers("knit(9) with yarn for 9", 9, nine, knitter -> knitter.knit(9));
        rejects("knit(10) with yarn for 9", ShawlKnitter.NO_YARN, 1, nine, knitter -> knitter.knit(10));
        answers("knit(9) up to the limit", 9, shawl(21), knitter -> knitter.knit(9));
        rejects("knit(10) over the limit by one", ShawlKnitter.COURSE_LIMIT, 30, shawl(21),
                knitter -> knitter.knit(10));
        Setup sixth = and(bed(0, 0), RICH, rows(1, 1, 1, 1, 1, 0));
        answers("knit(5) up to an empty course", 5, sixth, knitter -> knitter.knit(5));
        rejects("knit(6) with an empty course at the end", ShawlKnitter.NOTHING_TO_KNIT, 5, sixth,
                knitter -> knitter.knit(6));
        rejects("knit(2) of which the first drops loops", ShawlKnitter.NOTHING_TO_KNIT, 6, soonEmpty(),
                knitter -> knitter.knit(2));
    }

    private static void knitRejections() {
        sentence(29, "Throws `UnsupportedOperationException` if the call is rejected with the reason COURSE_LIMIT,"
                + " NOTHING_TO_KNIT or NO_YARN");
        answers("knit(1) after 29 courses", 1, shawl(29), knitter -> knitter.knit(1));
        rejects("knit(1) after 30 courses", ShawlKnitter.COURSE_LIMIT, 30, shawl(30), knitter -> knitter.knit(1));
        answers("knit(1) of the next shawl", 1, and(shawl(30), ShawlKnitter::castOff, bed(0, 0)),
                knitter -> knitter.knit(1));
        rejects("knit(1) of no needle", ShawlKnitter.NOTHING_TO_KNIT, 0, RICH, knitter -> knitter.knit(1));
        rejects("knit(1) without loops", ShawlKnitter.NOTHING_TO_KNIT, 0, and(bed(3, 4), RICH, drop(3, 4)),
                knitter -> knitter.knit(1));
        rejects("knit(1) with all on hold", ShawlKnitter.NOTHING_TO_KNIT, 0, and(bed(3, 4), RICH, hold(3, 4)),
                knitter -> knitter.knit(1));
        rejects("knit(1) with all slipped", ShawlKnitter.NOTHING_TO_KNIT, 0, and(bed(3, 4), RICH, rows(0xE7)),
                knitter -> knitter.knit(1));
        answers("knit(1) with one knit", 1, and(bed(3, 4), RICH, rows(0xF7)), knitter -> knitter.knit(1));
        rejects("knit(1) of the course 29", ShawlKnitter.NOTHING_TO_KNIT, 29, and(shawl(29), drop(0)),
                knitter -> knitter.knit(1));
        Setup wide = and(bed(0, 23), tension(8));
        answers("knit(1) with 192 units for 192", 24, and(wide, yarn(0, 192)), knitter -> knitter.knit(1));
        rejects("knit(1) with 191 units for 192", ShawlKnitter.NO_YARN, 192, and(wide, yarn(0, 191)),
                knitter -> knitter.knit(1));
        rejects("knit(1) with 200 units for 216", ShawlKnitter.NO_YARN, 216, and(wide, yarn(0, 200), tension(9)),
                knitter -> knitter.knit(1));
        rejects("knit(1) with yarn in other feeders", ShawlKnitter.NO_YARN, 192, and(wide, yarn(1, 200), yarn(3, 200)),
                knitter -> knitter.knit(1));
        answers("knit(1) with one unit for one", 1, and(bed(9, 9), yarn(0, 1), tension(1)),
                knitter -> knitter.knit(1));
        rejects("knit(1) without yarn", ShawlKnitter.NO_YARN, 1, and(bed(9, 9), tension(1)),
                knitter -> knitter.knit(1));
    }

    private static void willKnit() {
        needlesAre(30, "willKnit", bed(0, 23), true, ShawlKnitter::willKnit);
        needlesAre(30, "willKnit on an empty bed", NEW, false, ShawlKnitter::willKnit);
        sentence(30, "Tells whether a needle will knit in the next course.");
        answers("willKnit(4), with neither yarn", true, bed(4, 4), knitter -> knitter.willKnit(4));
        answers("willKnit(4) on hold", false, and(bed(4, 4), hold(4)), knitter -> knitter.willKnit(4));
        answers("willKnit(4) without loops", false, and(bed(4, 4), drop(4)), knitter -> knitter.willKnit(4));
        answers("willKnit(4) slipped", false, and(bed(4, 4), rows(0xEF)), knitter -> knitter.willKnit(4));
        answers("willKnit(4) with its column alone", true, and(bed(4, 4), rows(0x10)),
                knitter -> knitter.willKnit(4));
        Setup first = and(bed(0, 7), RICH, rows(1, 2, 4, 8, 16, 32));
        for (int course = 0; course < 8; course++) {
            int row = course % 6;
            answers("willKnit by the row of the course " + course, true, and(first, courses(course)),
                    knitter -> knitter.willKnit(row) && knitter.nextWidth() == 1);
        }
    }

    private static void nextWidth() {
        for (int way = 0; way < 2; way++) {
            Asking width = way == 0 ? ShawlKnitter::nextWidth : ShawlKnitter::nextWidthByMask;
            sentence(31 + way, way == 0 ? "Returns the number of stitches." : "Returns the same number.");
            answers("the width on an empty bed", 0, NEW, width);
            answers("the width without loops", 0, and(bed(3, 4), drop(3, 4)), width);
            answers("the width with all on hold", 0, and(bed(3, 4), hold(3, 4)), width);
            answers("the width with all slipped", 0, and(bed(0, 23), rows(0)), width);
            answers("the width of the first needle", 1, bed(0, 0), width);
            answers("the width of the last needle", 1, bed(23, 23), width);
            answers("the width of all", 24, bed(0, 23), width);
            answers("the width of all, by a row", 24, and(bed(0, 23), rows(255)), width);
            for (int column = 0; column < 8; column++) {
                answers("the width by one column", 3, and(bed(0, 23), rows(1 << column)), width);
                answers("the width without one column", 21, and(bed(0, 23), rows(255 - (1 << column))), width);
                answers("the width of one needle of this column", 1, and(bed(16 + column, 16 + column),
                        rows(1 << column)), width);
                answers("the width of the others", 0, and(bed(16 + column, 16 + column), rows(255 - (1 << column))),
                        width);
            }
            answers("the width with several loops on one needle", 2, and(bed(3, 3), loops(3, 3), bed(4, 4)), width);
        }
    }

    private static void stitchesIn() {
        sentence(33, "- `courses`: the number of courses, 1 to 10");
        Setup rows = and(bed(0, 23), rows(1, 3, 7));
        answers("stitchesIn of 1 to 10", "[3, 9, 18, 21, 27, 36, 39, 45, 54, 57]", rows, KnittingEdges::allStitches);
        sentence(33, "Throws `IllegalArgumentException` if courses is out of range");
        answers("stitchesIn(1)", 3, rows, knitter -> knitter.stitchesIn(1));
        answers("stitchesIn(10)", 57, rows, knitter -> knitter.stitchesIn(10));
        for (int courses : new int[] {0, -1, 11, Integer.MIN_VALUE, Integer.MAX_VALUE}) {
            refuses("stitchesIn(" + courses + ")", BAD_ARGUMENT, rows, knitter -> knitter.stitchesIn(courses));
            refuses("stitchesIn(" + courses + ") on an empty bed", BAD_ARGUMENT, NEW,
                    knitter -> knitter.stitchesIn(courses));
        }
    }

    private static String allStitches(ShawlKnitter knitter) {
        int[] stitches = new int[10];
        for (int courses = 1; courses <= 10; courses++) {
            stitches[courses - 1] = knitter.stitchesIn(courses);
        }
        return java.util.Arrays.toString(stitches);
    }

    private static String allDrops(ShawlKnitter knitter) {
        int[] drops = new int[10];
        for (int courses = 1; courses <= 10; courses++) {
            drops[courses - 1] = knitter.dropsIn(courses);
        }
        return java.util.Arrays.toString(drops);
    }

    private static void stitchesInWithoutLimits() {
        sentence(33, "as if there was enough yarn and no limit of courses, and a course of width 0 could be"
                + " knit, too.");
        answers("stitchesIn(10) without yarn", 240, bed(0, 23), knitter -> knitter.stitchesIn(10));
        answers("stitchesIn(10) after 30 courses", 10, shawl(30), knitter -> knitter.stitchesIn(10));
        answers("stitchesIn(10) after 29 courses", 10, shawl(29), knitter -> knitter.stitchesIn(10));
        answers("stitchesIn(10) on an empty bed", 0, NEW, knitter -> knitter.stitchesIn(10));
        answers("stitchesIn of rows with an empty one", "[0, 1, 1, 2, 2, 3, 3, 4, 4, 5]", and(bed(0, 0), rows(0, 1)),
                KnittingEdges::allStitches);
        answers("stitchesIn while a loop drops", "[1, 2, 3, 4, 5, 6, 7, 8, 9, 10]", soonLessWide(),
                KnittingEdges::allStitches);
        answers("stitchesIn while the loop of every second course drops", "[1, 1, 2, 2, 3, 3, 4, 4, 5, 5]",
                soonEmpty(), KnittingEdges::allStitches);
        Setup still = and(bed(0, 1), RICH, hold(1), courses(5));
        Asking forecast = knitter -> knitter.stitchesIn(10);
        answers("the data after stitchesIn(10)", Check.outcome(() -> View.ofData(Trace.come(still))),
                and(still, forecast::of), View::ofData);
    }

    private static void dropsIn() {
        sentence(34, "- `courses`: the number of courses, 1 to 10");
        Setup ages = and(bed(0, 1), bed(4, 4), RICH, hold(0), courses(4), hold(1));
        answers("dropsIn of 1 to 10", "[0, 1, 1, 1, 1, 2, 2, 2, 2, 2]", ages, KnittingEdges::allDrops);
        sentence(34, "Throws `IllegalArgumentException` if courses is out of range");
        answers("dropsIn(1)", 0, ages, knitter -> knitter.dropsIn(1));
        answers("dropsIn(10)", 2, ages, knitter -> knitter.dropsIn(10));
        for (int courses : new int[] {0, -1, 11, Integer.MIN_VALUE, Integer.MAX_VALUE}) {
            refuses("dropsIn(" + courses + ")", BAD_ARGUMENT, ages, knitter -> knitter.dropsIn(courses));
            refuses("dropsIn(" + courses + ") on an empty bed", BAD_ARGUMENT, NEW,
                    knitter -> knitter.dropsIn(courses));
        }
    }

    private static void dropsInWithoutLimits() {
        sentence(34, "under the same conditions as for stitchesIn.");
        answers("dropsIn without yarn", "[0, 0, 0, 0, 0, 3, 3, 3, 3, 3]", and(bed(0, 0), loops(0, 3), hold(0)),
                KnittingEdges::allDrops);
        answers("dropsIn of all needles, with empty courses", "[0, 0, 0, 0, 0, 24, 24, 24, 24, 24]",
                and(bed(0, 23), rows(0)), KnittingEdges::allDrops);
        answers("dropsIn after 30 courses", "[0, 0, 0, 0, 0, 1, 1, 1, 1, 1]", and(shawl(30), hold(0)),
                KnittingEdges::allDrops);
        answers("dropsIn after 29 courses", "[0, 0, 0, 0, 0, 1, 1, 1, 1, 1]", and(shawl(29), hold(0)),
                KnittingEdges::allDrops);
        answers("dropsIn on an empty bed", "[0, 0, 0, 0, 0, 0, 0, 0, 0, 0]", NEW, KnittingEdges::allDrops);
        answers("dropsIn of needles that knit", "[0, 0, 0, 0, 0, 0, 0, 0, 0, 0]", bed(0, 23), KnittingEdges::allDrops);
        Setup fifthRow = and(bed(0, 0), rows(0, 0, 0, 0, 0, 1));
        answers("dropsIn of a needle that knits at the age 5", "[0, 0, 0, 0, 0, 0, 0, 0, 0, 0]", fifthRow,
                KnittingEdges::allDrops);
        answers("the data after dropsIn(10)", Check.outcome(() -> View.ofData(Trace.come(bed(0, 3)))),
                and(bed(0, 3), knitter -> knitter.dropsIn(10)), View::ofData);
    }

    private static void coursesPossible() {
        sentence(35, "Returns how many courses can be knit one after the other now.");
        Asking possible = ShawlKnitter::coursesPossible;
        answers("coursesPossible() on an empty bed", 0, RICH, possible);
        answers("coursesPossible() without yarn", 0, bed(0, 0), possible);
        answers("coursesPossible() of a new shawl", 30, shawl(0), possible);
        answers("coursesPossible() after 1 course", 29, shawl(1), possible);
        answers("coursesPossible() after 29 courses", 1, shawl(29), possible);
        answers("coursesPossible() after 30 courses", 0, shawl(30), possible);
        answers("coursesPossible() with 29 units for 30 courses", 29, and(bed(0, 0), tension(1), yarn(0, 29)),
                possible);
        answers("coursesPossible() with 30 units for 30 courses", 30, and(bed(0, 0), tension(1), yarn(0, 30)),
                possible);
        answers("coursesPossible() with 191 units for 192", 0, and(bed(0, 23), tension(8), yarn(0, 191)), possible);
        answers("coursesPossible() with 192 units for 192", 1, and(bed(0, 23), tension(8), yarn(0, 192)), possible);
        answers("coursesPossible() with yarn elsewhere", 0, and(bed(0, 23), yarn(1, 200)), possible);
        answers("coursesPossible() up to an empty course", 5, and(bed(0, 0), RICH, rows(1, 1, 1, 1, 1, 0)), possible);
        answers("coursesPossible() from an empty course", 0, and(bed(0, 0), RICH, rows(0, 1)), possible);
        answers("coursesPossible() up to loops that have dropped", 1, soonEmpty(), possible);
        answers("coursesPossible() in courses of 10 and 4 stitches", 18,
                and(bed(0, 9), yarn(0, 99), tension(1), rows(255, 3, 3, 3, 3, 3)), possible);
        Setup asked = and(shawl(3), knitter -> knitter.coursesPossible());
        answers("the data after coursesPossible()", Check.outcome(() -> View.ofData(Trace.come(shawl(3)))), asked,
                View::ofData);
        refuses("rejectionReason() after coursesPossible()", NO_ELEMENT, asked, ShawlKnitter::rejectionReason);
    }
}
