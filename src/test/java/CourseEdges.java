/** The sentences of promises 36 to 50: courses and totals. */
final class CourseEdges extends Edge {
    private static final Setup OFF = ShawlKnitter::castOff;

    private CourseEdges() {
    }

    static void run() {
        courseCount();
        coursesAre(37, "widthOf", 1, ShawlKnitter::widthOf);
        coursesAre(38, "yarnOf", 1, ShawlKnitter::yarnOf);
        coursesAre(39, "feederOf", 0, ShawlKnitter::feederOf);
        coursesAre(40, "dropsOf", 0, ShawlKnitter::dropsOf);
        indexesOfCourses();
        extremesOfCourses();
        courseByWidth();
        orderOfWidths();
        feederByYarn();
        stitchCount();
        finishedShawls();
        yarnAddedAndUsed();
        droppedLoops();
        meanWidth();
        droppedShare();
        isConsistent();
    }

    private static void courseCount() {
        sentence(36, "Returns the number of courses, 0 to 30.");
        answers("courseCount() at first", 0, NEW, ShawlKnitter::courseCount);
        for (int courses : new int[] {0, 1, 10, 11, 29, 30}) {
            answers("courseCount()", courses, shawl(courses), ShawlKnitter::courseCount);
        }
        answers("courseCount() after a rejected course", 30, and(shawl(30), tried(knitter -> knitter.knit(1))),
                ShawlKnitter::courseCount);
        answers("courseCount() after castOff()", 0, and(shawl(30), OFF), ShawlKnitter::courseCount);
        answers("courseCount() after undo()", 20, and(shawl(30), ShawlKnitter::undo), ShawlKnitter::courseCount);
    }

    /** A method accepts the index of each course, and no other one. */
    private static void coursesAre(int section, String call, int due, AskingByIndex asking) {
        sentence(section, "Throws `IndexOutOfBoundsException` if there is no such course");
        for (int courses : new int[] {1, 2, 29, 30}) {
            boundsAre(courses, NO_INDEX, call, shawl(courses), due, asking);
        }
        refuses(call + " of 0 at first", NO_INDEX, NEW, knitter -> asking.of(knitter, 0));
        refuses(call + " of 0 without courses", NO_INDEX, shawl(0), knitter -> asking.of(knitter, 0));
        refuses(call + " of 0 after castOff()", NO_INDEX, and(shawl(30), OFF), knitter -> asking.of(knitter, 0));
        refuses(call + " of 1 in the next shawl", NO_INDEX, and(shawl(20), OFF, bed(0, 0), courses(1)),
                knitter -> asking.of(knitter, 1));
        refuses(call + " of 10 after undo()", NO_INDEX, and(shawl(20), ShawlKnitter::undo),
                knitter -> asking.of(knitter, 10));
    }

    private static void indexesOfCourses() {
        indexIs(37, "4 2 1 3 2 1 2 2", ShawlKnitter::widthOf);
        indexIs(38, "8 4 2 9 6 3 18 18", ShawlKnitter::yarnOf);
        indexIs(39, "0 0 0 3 3 3 1 1", ShawlKnitter::feederOf);
        indexIs(40, "0 0 0 0 0 0 1 0", ShawlKnitter::dropsOf);
    }

    /** The answers of eight courses; the needle 3 knits in the course 0, and its loop drops in the course 6. */
    private static void indexIs(int section, String due, AskingByIndex asking) {
        sentence(section, "- `course`: the index of a course");
        Setup different = and(bed(0, 3), yarn(0, 50), yarn(3, 50), yarn(1, 50), rows(15, 3, 1), tension(2), courses(1),
                hold(3), courses(2), feeder(3), tension(3), courses(3), drop(2), feeder(1), tension(9), courses(2));
        String[] answers = due.split(" ");
        for (int index = 0; index < answers.length; index++) {
            int course = index;
            answers("of the course " + course, answers[course], different, knitter -> asking.of(knitter, course));
        }
    }

    private static void extremesOfCourses() {
        sentence(37, "Returns the number of stitches.");
        Setup wide = and(bed(0, 23), tension(8), yarn(3, 192), feeder(3), courses(1));
        answers("widthOf(0) of all needles", 24, wide, knitter -> knitter.widthOf(0));
        answers("widthOf(29) of one needle", 1, shawl(30), knitter -> knitter.widthOf(29));
        sentence(38, "Returns the units of yarn.");
        answers("yarnOf(0) of all needles", 192, wide, knitter -> knitter.yarnOf(0));
        answers("yarnOf(0) of 22 needles at the tension 9", 198,
                and(bed(2, 23), tension(9), yarn(0, 200), courses(1)), knitter -> knitter.yarnOf(0));
        answers("yarnOf(0) after pickUp", 3, and(bed(0, 1), drop(0), yarn(0, 9), courses(1),
                knitter -> knitter.pickUp(0)), knitter -> knitter.yarnOf(0));
        sentence(39, "Returns the index of the feeder.");
        for (int feeder = 0; feeder < 4; feeder++) {
            answers("feederOf(0) after the next was selected", feeder,
                    and(bed(0, 0), yarn(feeder, 3), feeder(feeder), courses(1), feeder((feeder + 1) % 4)),
                    knitter -> knitter.feederOf(0));
        }
        sentence(40, "Returns the number of loops.");
        Setup many = and(CourseEdges::holdManyLoops, yarn(0, 200), courses(7));
        answers("dropsOf(4)", 0, many, knitter -> knitter.dropsOf(4));
        answers("dropsOf(5) of 3 loops on 23 needles", 69, many, knitter -> knitter.dropsOf(5));
        answers("dropsOf(6)", 0, many, knitter -> knitter.dropsOf(6));
        answers("dropsOf(0) after dropStitch", 0, and(shawl(0), bed(1, 1), drop(1), courses(1)),
                knitter -> knitter.dropsOf(0));
    }

    /** Three loops on all needles but the last one, and these needles on hold. */
    private static void holdManyLoops(ShawlKnitter knitter) {
        knitter.castOn(0, 23);
        for (int needle = 0; needle < 23; needle++) {
            for (int loop = 1; loop < 3; loop++) {
                knitter.transfer(needle + 1, false);
                knitter.castOn(needle + 1, needle + 1);
            }
            knitter.hold(needle);
        }
    }

    // ---- orders

    private static void courseByWidth() {
        sentence(41, "- `position`: the position, from 0");
        indexesAre(30, "courseByWidth", shawl(30), null, ShawlKnitter::courseByWidth);
        sentence(41, "Throws `NoSuchElementException` if there is no such position");
        for (int courses : new int[] {1, 2, 29, 30}) {
            boundsAre(courses, NO_ELEMENT, "courseByWidth", shawl(courses), null, ShawlKnitter::courseByWidth);
        }
        refuses("courseByWidth(0) at first", NO_ELEMENT, NEW, knitter -> knitter.courseByWidth(0));
        refuses("courseByWidth(0) after castOff()", NO_ELEMENT, and(shawl(30), OFF),
                knitter -> knitter.courseByWidth(0));
        refuses("courseByWidth(1) in the next shawl", NO_ELEMENT, and(shawl(20), OFF, bed(0, 0), courses(1)),
                knitter -> knitter.courseByWidth(1));
    }

    private static void orderOfWidths() {
        sentence(41, "Returns a course in the order of widths, the widest first.");
        orderIs("2 4 1 3 0", and(bed(0, 7), yarn(0, 200), tension(1), rows(1, 7, 31, 3, 15), courses(5)));
        orderIs("0 1 2 3 4", and(bed(0, 7), yarn(0, 200), tension(1), rows(31, 15, 7, 3, 1), courses(5)));
        orderIs("4 3 2 1 0", and(bed(0, 7), yarn(0, 200), tension(1), rows(1, 3, 7, 15, 31), courses(5)));
        sentence(41, "Of courses with the same width, the one with fewer dropped loops comes first, then the one with"
                + " the lower index.");
        orderIs("0 1 2 3 4 5 6", shawl(7));
        // The needle 0 alone knits; those cast on at first drop in the course 5, and those cast on later in the
        // course 6.
        Setup narrow = and(yarn(0, 200), tension(1), rows(1));
        orderIs("0 1 2 3 4 6 7 5", and(narrow, bed(0, 3), courses(8)));
        orderIs("0 1 2 3 4 7 5 6", and(narrow, bed(0, 1), courses(1), bed(2, 3), courses(7)));
        orderIs("0 1 2 3 4 7 6 5", and(narrow, bed(0, 2), courses(1), bed(3, 3), courses(7)));
        orderIs("0 1 2 3 4 7 5 6", and(narrow, bed(0, 1), courses(1), bed(3, 3), courses(7)));
        // The course 5 is wider than the course 6, though loops drop in it.
        orderIs("0 1 2 3 4 5 6", and(narrow, bed(0, 1), bed(8, 8), courses(6), drop(8), courses(1)));
    }

    /** All positions of the order of widths. */
    private static void orderIs(String due, Setup setup) {
        answers("the order of widths", due, setup, knitter -> {
            StringBuilder text = new StringBuilder();
            int courses = knitter.courseCount();
            for (int position = 0; position < courses; position++) {
                text.append(position == 0 ? "" : " ").append(knitter.courseByWidth(position));
            }
            return text;
        });
    }

    private static void feederByYarn() {
        sentence(42, "- `position`: the position, from 0");
        indexesAre(4, "feederByYarn", NEW, null, ShawlKnitter::feederByYarn);
        sentence(42, "Throws `NoSuchElementException` if there is no such position");
        boundsAre(4, NO_ELEMENT, "feederByYarn", NEW, null, ShawlKnitter::feederByYarn);
        sentence(42, "Returns a feeder in the order of yarn, the most yarn first.");
        feedersAre("3210", yarn(1, 1), yarn(2, 2), yarn(3, 3));
        feedersAre("2031", yarn(0, 199), yarn(2, 200), yarn(3, 7), yarn(1, 6));
        feedersAre("1230", yarn(0, 3), yarn(1, 1), yarn(2, 1), yarn(3, 1), bed(0, 0), courses(1));
        sentence(42, "Of feeders with the same yarn, the one with the lower index comes first.");
        feedersAre("0123", yarn(0, 200), yarn(1, 200), yarn(2, 200), yarn(3, 200));
        feedersAre("1302", yarn(1, 5), yarn(3, 5));
        feedersAre("2301", yarn(2, 5), yarn(3, 5));
        feedersAre("3012", yarn(3, 1));
        feedersAre("0231", yarn(0, 9), yarn(2, 9), yarn(3, 8));
    }

    private static void feedersAre(String due, Setup... setups) {
        answers("the order of feeders", due, and(setups), knitter -> "" + knitter.feederByYarn(0)
                + knitter.feederByYarn(1) + knitter.feederByYarn(2) + knitter.feederByYarn(3));
    }

    // ---- totals

    private static void stitchCount() {
        sentence(43, "Returns the number of stitches of all courses of the shawl.");
        answers("stitchCount() at first", 0, NEW, ShawlKnitter::stitchCount);
        answers("stitchCount() of 30 courses", 30, shawl(30), ShawlKnitter::stitchCount);
        answers("stitchCount() of 8 courses of all needles", 192, and(bed(0, 23), yarn(0, 192), tension(1), courses(8)),
                ShawlKnitter::stitchCount);
        answers("stitchCount() after castOff()", 0, and(shawl(30), OFF), ShawlKnitter::stitchCount);
        answers("stitchCount() of the next shawl", 2, and(shawl(30), OFF, bed(0, 0), courses(2)),
                ShawlKnitter::stitchCount);
    }

    private static void finishedShawls() {
        sentence(44, "Returns the number of shawls that have been finished so far.");
        answers("finishedShawls() at first", 0, NEW, ShawlKnitter::finishedShawls);
        answers("finishedShawls() during the first", 0, shawl(30), ShawlKnitter::finishedShawls);
        answers("finishedShawls() of a shawl without courses", 1, and(shawl(0), OFF), ShawlKnitter::finishedShawls);
        answers("finishedShawls() after a rejection", 1, and(shawl(0), OFF, tried(ShawlKnitter::castOff)),
                ShawlKnitter::finishedShawls);
        answers("finishedShawls() of 255", 255, knitter -> {
            for (int shawl = 0; shawl < 255; shawl++) {
                knitter.castOn(0, 0);
                knitter.castOff();
            }
        }, ShawlKnitter::finishedShawls);
        answers("finishedShawls() after undo()", 0, and(shawl(0), OFF, ShawlKnitter::undo),
                ShawlKnitter::finishedShawls);
    }

    private static void yarnAddedAndUsed() {
        Setup all = and(yarn(0, 200), yarn(1, 200), yarn(2, 200), yarn(3, 200));
        sentence(45, "Returns the units of yarn that have been added so far.");
        answers("yarnAdded() at first", 0, NEW, ShawlKnitter::yarnAdded);
        answers("yarnAdded() of full feeders", 800, all, ShawlKnitter::yarnAdded);
        answers("yarnAdded() after a rejection", 800, and(all, tried(knitter -> knitter.addYarn(0, 1))),
                ShawlKnitter::yarnAdded);
        answers("yarnAdded() after castOff()", 200, and(shawl(30), OFF), ShawlKnitter::yarnAdded);
        sentence(46, "Returns the units of yarn that have been used so far, by courses and for picking up stitches.");
        answers("yarnUsed() at first", 0, all, ShawlKnitter::yarnUsed);
        answers("yarnUsed() by 30 courses", 30, shawl(30), ShawlKnitter::yarnUsed);
        answers("yarnUsed() by pickUp alone", 1, and(bed(0, 0), drop(0), yarn(0, 1), knitter -> knitter.pickUp(0)),
                ShawlKnitter::yarnUsed);
        answers("yarnUsed() by both, in the next shawl", 32, and(shawl(30), OFF, bed(0, 1), drop(0),
                knitter -> knitter.pickUp(0), rows(1), courses(1)), ShawlKnitter::yarnUsed);
        answers("yarnUsed() after a rejection", 0, and(bed(0, 0), tried(knitter -> knitter.knit(1))),
                ShawlKnitter::yarnUsed);
    }

    private static void droppedLoops() {
        sentence(47, "Returns the number of loops that have dropped so far, by dropStitch and at the end of courses.");
        answers("droppedLoops() at first", 0, NEW, ShawlKnitter::droppedLoops);
        answers("droppedLoops() by dropStitch", 3, and(bed(0, 0), loops(0, 3), drop(0)), ShawlKnitter::droppedLoops);
        Setup many = and(CourseEdges::holdManyLoops, yarn(0, 200));
        answers("droppedLoops() after 5 courses", 0, and(many, courses(5)), ShawlKnitter::droppedLoops);
        answers("droppedLoops() after 6 courses", 69, and(many, courses(6)), ShawlKnitter::droppedLoops);
        answers("droppedLoops() of both", 70, and(many, courses(6), drop(23)), ShawlKnitter::droppedLoops);
        answers("droppedLoops() after castOff()", 69, and(many, courses(6), OFF), ShawlKnitter::droppedLoops);
        answers("droppedLoops() of loops that were cast off or knit together", 0,
                and(bed(0, 0), loops(0, 3), yarn(0, 9), courses(1), loops(0, 3), OFF), ShawlKnitter::droppedLoops);
    }

    private static void meanWidth() {
        sentence(48, "the sum divided by their number, both converted to double.");
        answers("meanWidth() of one course", 24.0, and(bed(0, 23), yarn(0, 72), courses(1)), ShawlKnitter::meanWidth);
        answers("meanWidth() of the widths 1, 1 and 2", 4.0 / 3.0,
                and(bed(0, 1), yarn(0, 99), rows(1, 1, 3), courses(3)), ShawlKnitter::meanWidth);
        answers("meanWidth() of 30 courses", 1.0, shawl(30), ShawlKnitter::meanWidth);
        answers("meanWidth() of the widths 2 and 1", 1.5, and(bed(0, 1), yarn(0, 99), rows(3, 1), courses(2)),
                ShawlKnitter::meanWidth);
        sentence(48, "Throws `ArithmeticException` if there are no courses");
        answers("meanWidth() of the first course", 1.0, shawl(1), ShawlKnitter::meanWidth);
        refuses("meanWidth() at first", NO_NUMBER, NEW, ShawlKnitter::meanWidth);
        refuses("meanWidth() ahead of the first course", NO_NUMBER, shawl(0), ShawlKnitter::meanWidth);
        refuses("meanWidth() after castOff()", NO_NUMBER, and(shawl(30), OFF), ShawlKnitter::meanWidth);
        refuses("meanWidth() after undo()", NO_NUMBER, and(shawl(1), ShawlKnitter::undo), ShawlKnitter::meanWidth);
    }

    private static void droppedShare() {
        sentence(49, "Returns the share of needles in work that have no loops, both numbers converted to float.");
        answers("droppedShare() of one of three", 1.0f / 3.0f, and(bed(4, 6), drop(5)), ShawlKnitter::droppedShare);
        answers("droppedShare() of one of 24", 1.0f / 24.0f, and(bed(0, 23), drop(23)), ShawlKnitter::droppedShare);
        answers("droppedShare() of all", 1.0f, and(bed(4, 6), drop(4, 5, 6)), ShawlKnitter::droppedShare);
        answers("droppedShare() of one on hold", 0.5f, and(bed(4, 5), drop(4), hold(4)), ShawlKnitter::droppedShare);
        sentence(49, "Throws `ArithmeticException` if no needle is in work");
        answers("droppedShare() of one needle with a loop", 0.0f, bed(23, 23), ShawlKnitter::droppedShare);
        answers("droppedShare() of one needle without loops", 1.0f, and(bed(0, 0), drop(0)),
                ShawlKnitter::droppedShare);
        refuses("droppedShare() at first", NO_NUMBER, NEW, ShawlKnitter::droppedShare);
        refuses("droppedShare() after castOff()", NO_NUMBER, and(bed(0, 23), OFF), ShawlKnitter::droppedShare);
        refuses("droppedShare() after undo()", NO_NUMBER, and(bed(0, 23), ShawlKnitter::undo),
                ShawlKnitter::droppedShare);
    }

    private static void isConsistent() {
        sentence(50, "Returns whether all this is true.");
        Setup many = and(CourseEdges::holdManyLoops, yarn(0, 200));
        Setup[] states = {NEW, bed(0, 23), bed(23, 23), shawl(30), and(shawl(30), OFF), many, and(many, courses(6)),
            and(bed(0, 23), rows(0)), and(bed(0, 0), hold(0), drop(0)), and(yarn(0, 200), yarn(3, 200)),
            and(bed(0, 0), drop(0), yarn(0, 1), knitter -> knitter.pickUp(0)), and(shawl(3), ShawlKnitter::undo),
            and(bed(0, 1), hold(0), knitter -> knitter.transfer(0, true))};
        for (Setup state : states) {
            answers("isConsistent()", true, state, ShawlKnitter::isConsistent);
        }
    }
}
