import java.util.Arrays;

/**
 * One shawl from its beginning, and what each question answers after each change of it. The answers were reckoned by
 * hand from the document.
 */
final class OneShawl extends Edge {
    /** The changes 1 to 18; what they leave is told by the beds below. */
    private static final Setup[] CHANGES = {
        bed(2, 9),
        knitter -> knitter.addYarn(0, 90),
        // The course 0: 8 stitches of the tension 3.
        courses(1),
        hold(5),
        knitter -> knitter.transfer(8, true),
        tension(2),
        // All columns but 4 are knit.
        rows(0xEF),
        drop(2),
        // The courses 1 and 2: the needles 3, 6, 7 and 9; the loops of 4 and 5 become 2 courses old.
        courses(2),
        feeder(3),
        knitter -> knitter.addYarn(3, 99),
        knitter -> knitter.pickUp(2),
        // The courses 3 to 6: the needles 2, 3, 6, 7 and 9; the loops of 4 and 5 drop in the last one.
        courses(4),
        knitter -> knitter.release(5),
        ShawlKnitter::undo,
        ShawlKnitter::clearPattern,
        ShawlKnitter::castOff,
        bed(20, 23)};

    private OneShawl() {
    }

    static void run() {
        theBed();
        oneNeedle();
        allNeedles();
        runsOfNeedles();
        yarnAndTension();
        pattern();
        nextCourse();
        forecasts();
        numberOfCourses();
        oneCourse();
        orders();
        totals();
        consistency();
        history();
    }

    /**
     * Asks ahead of the changes, and after each of them. What is due is a text of pairs, a change and the answer from
     * this change on, such as "0=none 3=8".
     */
    private static void along(String call, Asking asking, String due) {
        String[] pairs = due.split(" ");
        int next = 0;
        String answer = "";
        for (int count = 0; count <= CHANGES.length; count++) {
            if (next < pairs.length && pairs[next].startsWith(count + "=")) {
                answer = pairs[next].substring(pairs[next].indexOf('=') + 1);
                next++;
            }
            answers(call + " after the change " + count, answer, and(Arrays.copyOf(CHANGES, count)), asking);
        }
        Check.same("the answers that are due of " + call, pairs.length, next);
    }

    private static void theBed() {
        sentence(Document.WHAT_IT_IS, "A controller for a knitting machine that knits shawls");
        along("writeBed()", Edge::bedOf, "0=........................ 1=..11111111.............."
                + " 4=..111a1111.............. 5=..111a11.2.............. 8=..o11a11.2.............."
                + " 9=..o11a11.1.............. 12=..111a11.1.............. 13=..11oh11.1.............."
                + " 14=..11oo11.1.............. 15=..11oh11.1.............. 17=........................"
                + " 18=....................1111");
    }

    // ---- needles

    private static void oneNeedle() {
        sentence(9, "Tells whether a needle is in work.");
        along("isInWork(8)", knitter -> knitter.isInWork(8), "0=false 1=true 5=false");
        along("isInWork(9)", knitter -> knitter.isInWork(9), "0=false 1=true 17=false");
        along("isInWork(23)", knitter -> knitter.isInWork(23), "0=false 18=true");
        sentence(10, "Tells whether a needle is on hold.");
        along("isOnHold(5)", knitter -> knitter.isOnHold(5), "0=false 4=true 14=false 15=true 17=false");
        along("isOnHold(4)", knitter -> knitter.isOnHold(4), "0=false");
        sentence(11, "Returns the number of loops on a needle.");
        along("loopsOn(2)", knitter -> knitter.loopsOn(2), "0=0 1=1 8=0 12=1 17=0");
        along("loopsOn(8)", knitter -> knitter.loopsOn(8), "0=0 1=1 5=0");
        along("loopsOn(9)", knitter -> knitter.loopsOn(9), "0=0 1=1 5=2 9=1 17=0");
        sentence(12, "Returns the age of the loops on a needle.");
        along("ageOn(4)", knitter -> knitter.ageOn(4),
                "0=NoSuchElementException 1=0 9=2 13=NoSuchElementException");
        along("ageOn(9)", knitter -> knitter.ageOn(9), "0=NoSuchElementException 1=0 17=NoSuchElementException");
        sentence(12, "Returns the age.");
        along("ageOn(5)", knitter -> knitter.ageOn(5),
                "0=NoSuchElementException 1=0 9=2 13=NoSuchElementException");
        along("ageOn(2)", knitter -> knitter.ageOn(2), "0=NoSuchElementException 1=0 8=NoSuchElementException 12=0"
                + " 17=NoSuchElementException");
        sentence(18, "Returns the index of the needle.");
        along("nextDropped(0)", knitter -> knitter.nextDropped(0),
                "0=NoSuchElementException 8=2 12=NoSuchElementException 13=4 17=NoSuchElementException");
        along("nextDropped(5)", knitter -> knitter.nextDropped(5),
                "0=NoSuchElementException 13=5 17=NoSuchElementException");
    }

    private static void allNeedles() {
        sentence(13, "Returns the number of needles in work.");
        along("needlesInWork()", ShawlKnitter::needlesInWork, "0=0 1=8 5=7 17=0 18=4");
        sentence(14, "Returns the number of needles on hold.");
        along("needlesOnHold()", ShawlKnitter::needlesOnHold, "0=0 4=1 14=0 15=1 17=0");
        sentence(15, "Returns the number of loops on all needles.");
        along("loopCount()", ShawlKnitter::loopCount, "0=0 1=8 8=7 9=6 12=7 13=5 17=0 18=4");
    }

    private static void runsOfNeedles() {
        String due = "0=0 1=8 5=6 8=5 12=6 13=2 17=0 18=4";
        sentence(16, "Returns the length of the longest run of adjacent needles that have loops, found by walking along"
                + " the bed.");
        along("longestRun()", ShawlKnitter::longestRun, due);
        sentence(17, "Returns the same length in a second way: by a bit mask of the needles that is combined with"
                + " itself, shifted by one needle, again and again.");
        along("longestRunByMask()", ShawlKnitter::longestRunByMask, due);
    }

    // ---- yarn, tension, pattern

    private static void yarnAndTension() {
        sentence(24, "Returns the yarn in a feeder.");
        along("yarnIn(0)", knitter -> knitter.yarnIn(0), "0=0 2=90 3=66 9=50");
        along("yarnIn(1)", knitter -> knitter.yarnIn(1), "0=0");
        along("yarnIn(3)", knitter -> knitter.yarnIn(3), "0=0 11=99 12=98 13=58");
        sentence(25, "Returns the active feeder.");
        along("activeFeeder()", ShawlKnitter::activeFeeder, "0=0 10=3");
        sentence(26, "`int tension()`: Returns the tension.");
        along("tension()", ShawlKnitter::tension, "0=3 6=2");
    }

    private static void pattern() {
        sentence(27, "Returns the number of rows of the pattern.");
        along("patternRows()", ShawlKnitter::patternRows, "0=0 7=1 16=0");
        sentence(28, "Tells whether a stitch of the pattern is knit.");
        along("isKnit(0, 4)", knitter -> knitter.isKnit(0, 4),
                "0=IndexOutOfBoundsException 7=false 16=IndexOutOfBoundsException");
        along("isKnit(1, 4)", knitter -> knitter.isKnit(1, 4), "0=IndexOutOfBoundsException");
        sentence(28, "Returns whether the bit of this column is set in this row.");
        for (int column : new int[] {0, 3, 5, 7}) {
            along("isKnit(0, " + column + ")", knitter -> knitter.isKnit(0, column),
                    "0=IndexOutOfBoundsException 7=true 16=IndexOutOfBoundsException");
        }
    }

    // ---- knitting

    private static void nextCourse() {
        sentence(30, "Returns whether it will knit.");
        along("willKnit(2)", knitter -> knitter.willKnit(2), "0=false 1=true 8=false 12=true 17=false");
        along("willKnit(4)", knitter -> knitter.willKnit(4), "0=false 1=true 7=false");
        along("willKnit(5)", knitter -> knitter.willKnit(5), "0=false 1=true 4=false");
        along("willKnit(8)", knitter -> knitter.willKnit(8), "0=false 1=true 5=false");
        along("willKnit(20)", knitter -> knitter.willKnit(20), "0=false 18=true");
        String due = "0=0 1=8 4=7 5=6 7=5 8=4 12=5 17=0 18=4";
        sentence(31, "Returns the width of the next course, counted needle by needle.");
        along("nextWidth()", ShawlKnitter::nextWidth, due);
        sentence(32, "Returns the width of the next course in a second way: by bit masks of the bed and of the"
                + " pattern.");
        along("nextWidthByMask()", ShawlKnitter::nextWidthByMask, due);
    }

    private static void forecasts() {
        sentence(33, "Returns the number of stitches.");
        along("stitchesIn(1)", knitter -> knitter.stitchesIn(1), "0=0 1=8 4=7 5=6 7=5 8=4 12=5 17=0 18=4");
        along("stitchesIn(10)", knitter -> knitter.stitchesIn(10), "0=0 1=80 4=70 5=60 7=50 8=40 12=50 17=0 18=40");
        sentence(34, "Returns the number of loops.");
        along("dropsIn(3)", knitter -> knitter.dropsIn(3), "0=0");
        along("dropsIn(4)", knitter -> knitter.dropsIn(4), "0=0 9=2 13=0");
        along("dropsIn(10)", knitter -> knitter.dropsIn(10), "0=0 4=1 7=2 13=0");
        sentence(35, "Returns the number of courses.");
        along("coursesPossible()", ShawlKnitter::coursesPossible,
                "0=0 2=3 3=2 4=3 6=5 7=6 8=8 9=6 10=0 11=12 12=9 13=5 17=0 18=7");
    }

    // ---- courses

    private static void numberOfCourses() {
        sentence(36, "Returns the number of courses of the shawl.");
        along("courseCount()", ShawlKnitter::courseCount, "0=0 3=1 9=3 13=7 17=0");
    }

    private static void oneCourse() {
        sentence(37, "Returns the width of a course.");
        along("widthOf(0)", knitter -> knitter.widthOf(0), fromTo(3, "8"));
        along("widthOf(2)", knitter -> knitter.widthOf(2), fromTo(9, "4"));
        along("widthOf(6)", knitter -> knitter.widthOf(6), fromTo(13, "5"));
        sentence(38, "Returns the yarn that a course took.");
        along("yarnOf(0)", knitter -> knitter.yarnOf(0), fromTo(3, "24"));
        along("yarnOf(2)", knitter -> knitter.yarnOf(2), fromTo(9, "8"));
        along("yarnOf(6)", knitter -> knitter.yarnOf(6), fromTo(13, "10"));
        sentence(39, "Returns the feeder with which a course was knit.");
        along("feederOf(2)", knitter -> knitter.feederOf(2), fromTo(9, "0"));
        along("feederOf(3)", knitter -> knitter.feederOf(3), fromTo(13, "3"));
        sentence(40, "Returns the number of loops that dropped at the end of a course.");
        along("dropsOf(5)", knitter -> knitter.dropsOf(5), fromTo(13, "0"));
        along("dropsOf(6)", knitter -> knitter.dropsOf(6), fromTo(13, "2"));
    }

    /** The answer from the change with which a course comes to the one with which the shawl is cast off. */
    private static String fromTo(int first, String answer) {
        return "0=IndexOutOfBoundsException " + first + "=" + answer + " 17=IndexOutOfBoundsException";
    }

    private static void orders() {
        sentence(41, "Returns the index of the course.");
        along("courseByWidth(0)", knitter -> knitter.courseByWidth(0),
                "0=NoSuchElementException 3=0 17=NoSuchElementException");
        along("courseByWidth(1)", knitter -> knitter.courseByWidth(1),
                "0=NoSuchElementException 9=1 13=3 17=NoSuchElementException");
        along("courseByWidth(4)", knitter -> knitter.courseByWidth(4),
                "0=NoSuchElementException 13=6 17=NoSuchElementException");
        along("courseByWidth(6)", knitter -> knitter.courseByWidth(6),
                "0=NoSuchElementException 13=2 17=NoSuchElementException");
        sentence(42, "Returns the index of the feeder.");
        along("feederByYarn(0)", knitter -> knitter.feederByYarn(0), "0=0 11=3");
        along("feederByYarn(1)", knitter -> knitter.feederByYarn(1), "0=1 11=0");
        along("feederByYarn(2)", knitter -> knitter.feederByYarn(2), "0=2 11=1");
        along("feederByYarn(3)", knitter -> knitter.feederByYarn(3), "0=3 11=2");
    }

    // ---- totals

    private static void totals() {
        sentence(43, "Returns the number of stitches.");
        along("stitchCount()", ShawlKnitter::stitchCount, "0=0 3=8 9=16 13=36 17=0");
        sentence(44, "Returns the number of shawls.");
        along("finishedShawls()", ShawlKnitter::finishedShawls, "0=0 17=1");
        sentence(45, "Returns the units.");
        along("yarnAdded()", ShawlKnitter::yarnAdded, "0=0 2=90 11=189");
        sentence(46, "Returns the units.");
        along("yarnUsed()", ShawlKnitter::yarnUsed, "0=0 3=24 9=40 12=41 13=81");
        sentence(47, "Returns the number of loops.");
        along("droppedLoops()", ShawlKnitter::droppedLoops, "0=0 8=1 13=3");
        sentence(48, "Returns the mean width.");
        along("meanWidth()", ShawlKnitter::meanWidth, "0=ArithmeticException 3=8.0 9=" + 16.0 / 3.0 + " 13="
                + 36.0 / 7.0 + " 17=ArithmeticException");
        sentence(49, "Returns the share.");
        along("droppedShare()", ShawlKnitter::droppedShare, "0=ArithmeticException 1=0.0 8=" + 1.0f / 7.0f
                + " 12=0.0 13=" + 2.0f / 7.0f + " 17=ArithmeticException 18=0.0");
    }

    private static void consistency() {
        sentence(50, "Checks the data: both ways to compute the longest run and both ways to compute the next width"
                + " agree, the yarn that has been added is the yarn in all feeders plus the yarn that has been used,"
                + " and only needles in work have loops or are on hold.");
        along("isConsistent()", ShawlKnitter::isConsistent, "0=true");
        along("what it checks", knitter -> knitter.longestRun() == knitter.longestRunByMask()
                && knitter.nextWidth() == knitter.nextWidthByMask()
                && knitter.yarnAdded() == knitter.yarnIn(0) + knitter.yarnIn(1) + knitter.yarnIn(2) + knitter.yarnIn(3)
                        + knitter.yarnUsed()
                && isClearOutOfWork(knitter), "0=true");
    }

    private static boolean isClearOutOfWork(ShawlKnitter knitter) {
        for (int needle = 0; needle < 24; needle++) {
            if (!knitter.isInWork(needle) && (knitter.loopsOn(needle) > 0 || knitter.isOnHold(needle))) {
                return false;
            }
        }
        return true;
    }

    // ---- history

    private static void history() {
        sentence(60, "Returns the number of changes that can still be undone.");
        along("undo()", ShawlKnitter::undo, "0=IllegalStateException 1=0 2=1 3=2 4=3 5=4 6=5 7=6 8=7 15=6 16=7");
        sentence(61, "Returns the number of courses.");
        along("saveSnapshot()", ShawlKnitter::saveSnapshot, "0=0 3=1 9=3 13=7 17=0");
    }
}
