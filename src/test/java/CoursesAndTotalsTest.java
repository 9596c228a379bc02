import java.util.NoSuchElementException;

/** Promises 36 to 50: courses and totals. */
public final class CoursesAndTotalsTest {
    private static final Class<IndexOutOfBoundsException> NO_INDEX = IndexOutOfBoundsException.class;
    private static final Class<NoSuchElementException> NO_ELEMENT = NoSuchElementException.class;
    private static final Class<ArithmeticException> NO_NUMBER = ArithmeticException.class;

    public static void main(String[] arguments) {
        courseCount();
        answersOfCourses();
        courseByWidth();
        feederByYarn();
        stitchCount();
        finishedShawls();
        yarnAdded();
        yarnUsed();
        droppedLoops();
        meanWidth();
        droppedShare();
        isConsistent();
        Check.finish();
    }

    /**
     * The needle 1 with two loops on hold, and the needles 2 to 11, of which the course 0 knits all, and the courses 1
     * to 7 every second one. The needle 1 drops its loops in the course 5, and the slipped ones theirs in the course 6.
     * The feeder and the tension change ahead of the course 6.
     */
    private static ShawlKnitter knitShawl() {
        ShawlKnitter knitter = new ShawlKnitter();
        knitter.addYarn(0, 99);
        knitter.addYarn(2, 99);
        knitter.castOn(0, 11);
        knitter.transfer(0, true);
        knitter.hold(1);
        knitter.setTension(2);
        knitter.knit(1);
        knitter.addPatternRow(0x55);
        knitter.knit(5);
        knitter.setTension(3);
        knitter.selectFeeder(2);
        knitter.knit(2);
        return knitter;
    }

    private static void courseCount() {
        Check.promise(36, "courseCount");
        ShawlKnitter knitter = knitShawl();
        Check.answers("courseCount() at first", 0, () -> new ShawlKnitter().courseCount());
        Check.answers("courseCount()", 8, knitter::courseCount);
        knitter.castOff();
        Check.answers("courseCount() after castOff", 0, knitter::courseCount);
    }

    private static void answersOfCourses() {
        ShawlKnitter knitter = knitShawl();
        Check.promise(37, "widthOf");
        Check.answers("widthOf(0)", 10, () -> knitter.widthOf(0));
        Check.answers("widthOf(5)", 5, () -> knitter.widthOf(5));
        Check.answers("widthOf(6), which has lost 5 needles", 5, () -> knitter.widthOf(6));
        Check.refuses("widthOf(8)", NO_INDEX, () -> knitter.widthOf(8));
        Check.refuses("widthOf(-1)", NO_INDEX, () -> knitter.widthOf(-1));
        Check.promise(38, "yarnOf");
        Check.answers("yarnOf(0)", 20, () -> knitter.yarnOf(0));
        Check.answers("yarnOf(1)", 10, () -> knitter.yarnOf(1));
        Check.answers("yarnOf(7)", 15, () -> knitter.yarnOf(7));
        Check.refuses("yarnOf(8)", NO_INDEX, () -> knitter.yarnOf(8));
        Check.refuses("yarnOf(-1)", NO_INDEX, () -> knitter.yarnOf(-1));
        Check.promise(39, "feederOf");
        Check.answers("feederOf(5)", 0, () -> knitter.feederOf(5));
        Check.answers("feederOf(6)", 2, () -> knitter.feederOf(6));
        Check.refuses("feederOf(8)", NO_INDEX, () -> knitter.feederOf(8));
        Check.refuses("feederOf(-1)", NO_INDEX, () -> knitter.feederOf(-1));
        Check.promise(40, "dropsOf");
        Check.answers("dropsOf(4)", 0, () -> knitter.dropsOf(4));
        Check.answers("dropsOf(5)", 2, () -> knitter.dropsOf(5));
        Check.answers("dropsOf(6)", 5, () -> knitter.dropsOf(6));
        Check.answers("dropsOf(7)", 0, () -> knitter.dropsOf(7));
        Check.refuses("dropsOf(8)", NO_INDEX, () -> knitter.dropsOf(8));
        Check.refuses("dropsOf(-1)", NO_INDEX, () -> knitter.dropsOf(-1));
        knitter.castOff();
        Check.promise(37, "widthOf");
        Check.refuses("widthOf(0) after castOff", NO_INDEX, () -> knitter.widthOf(0));
    }

    private static void courseByWidth() {
        Check.promise(41, "courseByWidth");
        ShawlKnitter knitter = knitShawl();
        knitter.castOn(20, 23);
        knitter.knit(1);
        int[] order = {0, 8, 1, 2, 3, 4, 7, 5, 6};
        for (int position = 0; position < order.length; position++) {
            int at = position;
            Check.answers("courseByWidth(" + at + ")", order[at], () -> knitter.courseByWidth(at));
        }
        Check.refuses("courseByWidth(9)", NO_ELEMENT, () -> knitter.courseByWidth(9));
        Check.refuses("courseByWidth(-1)", NO_ELEMENT, () -> knitter.courseByWidth(-1));
        knitter.castOff();
        knitter.castOn(0, 0);
        knitter.clearPattern();
        knitter.setTension(1);
        knitter.addYarn(2, 50);
        knitter.knit(1);
        Check.answers("courseByWidth(0) of a new shawl", 0, () -> knitter.courseByWidth(0));
        Check.refuses("courseByWidth(1) of a new shawl", NO_ELEMENT, () -> knitter.courseByWidth(1));
        knitter.knit(9);
        knitter.knit(10);
        knitter.knit(10);
        Check.answers("courseByWidth(29) of 30 courses", 29, () -> knitter.courseByWidth(29));
        Check.refuses("courseByWidth(30) of 30 courses", NO_ELEMENT, () -> knitter.courseByWidth(30));
        Check.refuses("courseByWidth(0) at first", NO_ELEMENT, () -> new ShawlKnitter().courseByWidth(0));
    }

    private static void feederByYarn() {
        Check.promise(42, "feederByYarn");
        ShawlKnitter knitter = new ShawlKnitter();
        orderOfFeeders(knitter, 0, 1, 2, 3);
        knitter.addYarn(3, 7);
        knitter.addYarn(1, 7);
        orderOfFeeders(knitter, 1, 3, 0, 2);
        knitter.addYarn(2, 8);
        orderOfFeeders(knitter, 2, 1, 3, 0);
        Check.refuses("feederByYarn(4)", NO_ELEMENT, () -> knitter.feederByYarn(4));
        Check.refuses("feederByYarn(-1)", NO_ELEMENT, () -> knitter.feederByYarn(-1));
    }

    private static void orderOfFeeders(ShawlKnitter knitter, int... feeders) {
        for (int position = 0; position < feeders.length; position++) {
            int at = position;
            Check.answers("feederByYarn(" + at + ")", feeders[at], () -> knitter.feederByYarn(at));
        }
    }

    private static void stitchCount() {
        Check.promise(43, "stitchCount");
        ShawlKnitter knitter = knitShawl();
        Check.answers("stitchCount()", 45, knitter::stitchCount);
        knitter.castOff();
        Check.answers("stitchCount() after castOff", 0, knitter::stitchCount);
    }

    private static void finishedShawls() {
        Check.promise(44, "finishedShawls");
        ShawlKnitter knitter = new ShawlKnitter();
        Check.answers("finishedShawls() at first", 0, knitter::finishedShawls);
        for (int shawl = 1; shawl <= 3; shawl++) {
            knitter.castOn(0, 3);
            knitter.castOff();
            Check.answers("finishedShawls()", shawl, knitter::finishedShawls);
        }
        Check.refuses("castOff()", UnsupportedOperationException.class, knitter::castOff);
        Check.answers("finishedShawls() after a rejection", 3, knitter::finishedShawls);
    }

    private static void yarnAdded() {
        Check.promise(45, "yarnAdded");
        ShawlKnitter knitter = knitShawl();
        Check.answers("yarnAdded() at first", 0, () -> new ShawlKnitter().yarnAdded());
        Check.answers("yarnAdded()", 198, knitter::yarnAdded);
        knitter.castOff();
        Check.answers("yarnAdded() after castOff", 198, knitter::yarnAdded);
        knitter.undo();
        knitter.addYarn(1, 4);
        knitter.undo();
        Check.answers("yarnAdded() after undo", 198, knitter::yarnAdded);
    }

    private static void yarnUsed() {
        Check.promise(46, "yarnUsed");
        ShawlKnitter knitter = knitShawl();
        Check.answers("yarnUsed() at first", 0, () -> new ShawlKnitter().yarnUsed());
        Check.answers("yarnUsed()", 100, knitter::yarnUsed);
        knitter.pickUp(3);
        Check.answers("yarnUsed() after pickUp", 101, knitter::yarnUsed);
        knitter.castOff();
        Check.answers("yarnUsed() after castOff", 101, knitter::yarnUsed);
    }

    private static void droppedLoops() {
        Check.promise(47, "droppedLoops");
        ShawlKnitter knitter = knitShawl();
        Check.answers("droppedLoops() at first", 0, () -> new ShawlKnitter().droppedLoops());
        Check.answers("droppedLoops()", 7, knitter::droppedLoops);
        knitter.dropStitch(2);
        Check.answers("droppedLoops() after dropStitch", 8, knitter::droppedLoops);
        knitter.castOff();
        Check.answers("droppedLoops() after castOff", 8, knitter::droppedLoops);
    }

    private static void meanWidth() {
        Check.promise(48, "meanWidth");
        ShawlKnitter knitter = new ShawlKnitter();
        Check.refuses("meanWidth() at first", NO_NUMBER, knitter::meanWidth);
        knitter.castOn(0, 1);
        Check.refuses("meanWidth() without courses", NO_NUMBER, knitter::meanWidth);
        knitter.addYarn(0, 99);
        knitter.knit(2);
        knitter.dropStitch(0);
        knitter.knit(1);
        Check.answers("meanWidth()", 5.0 / 3.0, knitter::meanWidth);
        knitter.castOff();
        Check.refuses("meanWidth() after castOff", NO_NUMBER, knitter::meanWidth);
    }

    private static void droppedShare() {
        Check.promise(49, "droppedShare");
        ShawlKnitter knitter = new ShawlKnitter();
        Check.refuses("droppedShare() at first", NO_NUMBER, knitter::droppedShare);
        knitter.castOn(0, 2);
        Check.answers("droppedShare() without dropped needles", 0.0f, knitter::droppedShare);
        knitter.dropStitch(1);
        Check.answers("droppedShare()", 1.0f / 3.0f, knitter::droppedShare);
        knitter.dropStitch(0);
        knitter.dropStitch(2);
        Check.answers("droppedShare() of all", 1.0f, knitter::droppedShare);
    }

    private static void isConsistent() {
        Check.promise(50, "isConsistent");
        Check.answers("isConsistent() at first", true, () -> new ShawlKnitter().isConsistent());
        ShawlKnitter knitter = knitShawl();
        Check.answers("isConsistent()", true, knitter::isConsistent);
        knitter.pickUp(3);
        knitter.transfer(3, true);
        knitter.dropStitch(6);
        Check.answers("isConsistent() with dropped needles", true, knitter::isConsistent);
        knitter.undo();
        Check.answers("isConsistent() after undo", true, knitter::isConsistent);
        knitter.castOff();
        Check.answers("isConsistent() after castOff", true, knitter::isConsistent);
    }
}
