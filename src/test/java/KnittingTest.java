/** Promises 29 to 35: knitting and forecasts. */
public final class KnittingTest {
    private static final Class<IndexOutOfBoundsException> NO_INDEX = IndexOutOfBoundsException.class;
    private static final Class<IllegalArgumentException> BAD_ARGUMENT = IllegalArgumentException.class;

    public static void main(String[] arguments) {
        knit();
        knitUntilLoopsDrop();
        knitRejections();
        willKnit();
        nextWidth();
        stitchesIn();
        dropsIn();
        coursesPossible();
        Check.finish();
    }

    /** Needles in work, and 200 units of yarn in the feeder 0. */
    private static ShawlKnitter ready(int first, int last) {
        ShawlKnitter knitter = new ShawlKnitter();
        knitter.castOn(first, last);
        knitter.addYarn(0, 99);
        knitter.addYarn(0, 99);
        knitter.addYarn(0, 2);
        return knitter;
    }

    private static void knit() {
        Check.promise(29, "knit");
        ShawlKnitter knitter = ready(6, 17);
        knitter.addPatternRow(255);
        knitter.addPatternRow(0x0F);
        knitter.hold(8);
        Check.answers("knit(1)", 11, () -> knitter.knit(1));
        knitter.selectFeeder(1);
        knitter.addYarn(1, 99);
        knitter.setTension(4);
        Check.answers("knit(2)", 16, () -> knitter.knit(2));
        Check.answers("courseCount()", 3, knitter::courseCount);
        Check.answers("yarnIn(0)", 167, () -> knitter.yarnIn(0));
        Check.answers("yarnIn(1)", 35, () -> knitter.yarnIn(1));
        Check.answers("yarnUsed()", 97, knitter::yarnUsed);
        Check.answers("widthOf(1), the columns 0 to 3 without the needle 8", 5, () -> knitter.widthOf(1));
        Check.answers("ageOn(8)", 3, () -> knitter.ageOn(8));
        Check.answers("ageOn(12)", 0, () -> knitter.ageOn(12));
        Check.refusesIdly("knit(0)", BAD_ARGUMENT, knitter, () -> knitter.knit(0));
        Check.refuses("knit(11)", BAD_ARGUMENT, () -> knitter.knit(11));
        Check.refuses("knit(-1)", BAD_ARGUMENT, () -> knitter.knit(-1));
        Check.answers("knit(10)", 20, () -> ready(3, 4).knit(10));
        Check.refuses("knit(0) on a new knitter", BAD_ARGUMENT, () -> new ShawlKnitter().knit(0));
    }

    private static void knitUntilLoopsDrop() {
        ShawlKnitter knitter = ready(0, 3);
        knitter.transfer(0, true);
        knitter.hold(1);
        knitter.addPatternRow(0x0B);
        // The needle 1 has 2 loops on hold, the needle 2 is slipped, and the needle 3 is knit.
        Check.answers("knit(5)", 5, () -> knitter.knit(5));
        Check.answers("droppedLoops()", 0, knitter::droppedLoops);
        Check.answers("knit(1), in which loops drop", 1, () -> knitter.knit(1));
        Check.answers("dropsOf(5)", 3, () -> knitter.dropsOf(5));
        Check.answers("droppedLoops()", 3, knitter::droppedLoops);
        Check.answers("loopsOn(1)", 0, () -> knitter.loopsOn(1));
        Check.answers("isInWork(1)", true, () -> knitter.isInWork(1));
        Check.answers("isOnHold(1)", true, () -> knitter.isOnHold(1));
        Check.answers("loopsOn(2)", 0, () -> knitter.loopsOn(2));
        Check.answers("knit(1) afterwards", 1, () -> knitter.knit(1));
        Check.answers("dropsOf(6)", 0, () -> knitter.dropsOf(6));
        // A new shawl begins with the first row of the pattern again.
        ShawlKnitter again = ready(0, 0);
        again.addPatternRow(1);
        again.addPatternRow(3);
        again.knit(1);
        again.castOff();
        again.castOn(0, 1);
        Check.answers("knit(1) of a new shawl", 1, () -> again.knit(1));
    }

    private static void knitRejections() {
        ShawlKnitter bare = new ShawlKnitter();
        Check.rejects("knit(1) on an empty bed", ShawlKnitter.NOTHING_TO_KNIT, 0, bare, () -> bare.knit(1));
        ShawlKnitter poor = new ShawlKnitter();
        poor.castOn(0, 4);
        poor.addYarn(0, 14);
        poor.addYarn(1, 99);
        Check.rejects("knit(1) with 14 units for 15", ShawlKnitter.NO_YARN, 15, poor, () -> poor.knit(1));
        poor.addYarn(0, 15);
        Check.rejects("knit(2) with 29 units for 30", ShawlKnitter.NO_YARN, 15, poor, () -> poor.knit(2));
        poor.addYarn(0, 1);
        Check.answers("knit(2) with 30 units for 30", 10, () -> poor.knit(2));
        ShawlKnitter slipping = ready(0, 2);
        slipping.addPatternRow(1);
        slipping.addPatternRow(2);
        slipping.addPatternRow(8);
        Check.rejects("knit(10) with a course of width 0", ShawlKnitter.NOTHING_TO_KNIT, 2, slipping,
                () -> slipping.knit(10));
        ShawlKnitter emptying = soonEmpty();
        Check.rejects("knit(2), of which the first drops the loops of the second", ShawlKnitter.NOTHING_TO_KNIT, 6,
                emptying, () -> emptying.knit(2));
        slipping.setTension(9);
        slipping.selectFeeder(1);
        slipping.addYarn(1, 17);
        Check.rejects("knit(3), of which the yarn stops the second", ShawlKnitter.NO_YARN, 9, slipping,
                () -> slipping.knit(3));
        limitOfCourses();
    }

    /** The course 5 drops the loop of the needle 1, which alone the course 6 could knit. */
    private static ShawlKnitter soonEmpty() {
        ShawlKnitter knitter = ready(0, 1);
        knitter.addPatternRow(1);
        knitter.knit(5);
        knitter.clearPattern();
        knitter.addPatternRow(2);
        knitter.addPatternRow(1);
        return knitter;
    }

    private static void limitOfCourses() {
        ShawlKnitter knitter = ready(0, 0);
        knitter.knit(10);
        knitter.knit(10);
        knitter.knit(9);
        Check.rejects("knit(2) after 29 courses", ShawlKnitter.COURSE_LIMIT, 30, knitter, () -> knitter.knit(2));
        Check.answers("knit(1) after 29 courses", 1, () -> knitter.knit(1));
        knitter.dropStitch(0);
        Check.rejects("knit(1) after 30 courses, and without loops", ShawlKnitter.COURSE_LIMIT, 30, knitter,
                () -> knitter.knit(1));
        Check.answers("courseCount()", 30, knitter::courseCount);
    }

    private static void willKnit() {
        Check.promise(30, "willKnit");
        ShawlKnitter knitter = ready(6, 17);
        Check.answers("willKnit(6) without a pattern", true, () -> knitter.willKnit(6));
        knitter.addPatternRow(0x42);
        knitter.addPatternRow(0x01);
        knitter.hold(9);
        knitter.dropStitch(17);
        Check.answers("willKnit(6), column 6", true, () -> knitter.willKnit(6));
        Check.answers("willKnit(7), column 7", false, () -> knitter.willKnit(7));
        Check.answers("willKnit(9), on hold", false, () -> knitter.willKnit(9));
        Check.answers("willKnit(14), column 6", true, () -> knitter.willKnit(14));
        Check.answers("willKnit(17), without loops", false, () -> knitter.willKnit(17));
        Check.answers("willKnit(22), not in work", false, () -> knitter.willKnit(22));
        knitter.knit(1);
        Check.answers("willKnit(8), column 0 of the second row", true, () -> knitter.willKnit(8));
        Check.answers("willKnit(14) in the second row", false, () -> knitter.willKnit(14));
        Check.answers("willKnit(0)", false, () -> knitter.willKnit(0));
        Check.answers("willKnit(23)", false, () -> knitter.willKnit(23));
        Check.refuses("willKnit(24)", NO_INDEX, () -> knitter.willKnit(24));
        Check.refuses("willKnit(-1)", NO_INDEX, () -> knitter.willKnit(-1));
    }

    private static void nextWidth() {
        widthIs("on an empty bed", 0, new ShawlKnitter());
        ShawlKnitter knitter = new ShawlKnitter();
        knitter.castOn(0, 23);
        widthIs("without yarn", 24, knitter);
        knitter.hold(0);
        knitter.dropStitch(23);
        widthIs("with a needle on hold and one without loops", 22, knitter);
        knitter.addPatternRow(0x81);
        knitter.addPatternRow(0);
        widthIs("by a row of the pattern", 4, knitter);
        knitter.addYarn(0, 99);
        knitter.knit(1);
        widthIs("by an empty row of the pattern", 0, knitter);
        knitter.clearPattern();
        knitter.transfer(11, true);
        widthIs("without a pattern again", 21, knitter);
        for (int column = 0; column < 8; column++) {
            ShawlKnitter other = new ShawlKnitter();
            other.castOn(0, 17);
            other.addPatternRow(1 << column);
            widthIs("by the column " + column + " alone", column < 2 ? 3 : 2, other);
        }
    }

    private static void widthIs(String when, int due, ShawlKnitter knitter) {
        Check.promise(31, "nextWidth");
        Check.answers("nextWidth() " + when, due, knitter::nextWidth);
        Check.promise(32, "nextWidthByMask");
        Check.answers("nextWidthByMask() " + when, due, knitter::nextWidthByMask);
    }

    private static void stitchesIn() {
        Check.promise(33, "stitchesIn");
        ShawlKnitter knitter = new ShawlKnitter();
        Check.answers("stitchesIn(10) on an empty bed", 0, () -> knitter.stitchesIn(10));
        knitter.castOn(0, 9);
        knitter.addPatternRow(0x01);
        knitter.addPatternRow(0x00);
        knitter.addPatternRow(0x03);
        Check.answers("stitchesIn(1)", 2, () -> knitter.stitchesIn(1));
        Check.answers("stitchesIn(2)", 2, () -> knitter.stitchesIn(2));
        Check.answers("stitchesIn(3)", 6, () -> knitter.stitchesIn(3));
        Check.answers("stitchesIn(10)", 20, () -> knitter.stitchesIn(10));
        Check.refuses("stitchesIn(0)", BAD_ARGUMENT, () -> knitter.stitchesIn(0));
        Check.refuses("stitchesIn(11)", BAD_ARGUMENT, () -> knitter.stitchesIn(11));
        Check.refuses("stitchesIn(-1)", BAD_ARGUMENT, () -> knitter.stitchesIn(-1));
        String before = View.of(knitter);
        knitter.stitchesIn(10);
        Check.same("the knitter after stitchesIn", before, View.of(knitter));
        ShawlKnitter late = ready(0, 1);
        late.knit(10);
        late.knit(10);
        late.knit(10);
        late.addPatternRow(0);
        for (int row = 1; row < 4; row++) {
            late.addPatternRow(255);
        }
        // The next course would have the index 30, so the third row is the next one.
        Check.answers("stitchesIn(3) after 30 courses", 4, () -> late.stitchesIn(3));
        ShawlKnitter dropping = ready(0, 1);
        dropping.addPatternRow(1);
        dropping.knit(5);
        dropping.clearPattern();
        dropping.addPatternRow(1);
        dropping.addPatternRow(1);
        dropping.addPatternRow(3);
        dropping.addPatternRow(1);
        Check.answers("stitchesIn(4) of which loops drop in the first", 4, () -> dropping.stitchesIn(4));
    }

    private static void dropsIn() {
        Check.promise(34, "dropsIn");
        ShawlKnitter knitter = new ShawlKnitter();
        Check.answers("dropsIn(10) on an empty bed", 0, () -> knitter.dropsIn(10));
        knitter.castOn(0, 4);
        knitter.transfer(0, true);
        knitter.hold(1);
        Check.answers("dropsIn(5)", 0, () -> knitter.dropsIn(5));
        Check.answers("dropsIn(6)", 2, () -> knitter.dropsIn(6));
        Check.answers("dropsIn(10)", 2, () -> knitter.dropsIn(10));
        knitter.addPatternRow(0);
        Check.answers("dropsIn(6) with empty courses", 5, () -> knitter.dropsIn(6));
        Check.answers("dropsIn(10) with empty courses", 5, () -> knitter.dropsIn(10));
        String before = View.of(knitter);
        knitter.dropsIn(10);
        Check.same("the knitter after dropsIn", before, View.of(knitter));
        ShawlKnitter rows = ready(0, 1);
        rows.addPatternRow(1);
        rows.knit(4);
        rows.addPatternRow(1);
        rows.addPatternRow(2);
        // The courses 4 and 5 are knit by the rows 1 and 2, so that the needle 1 is knit in time.
        Check.answers("dropsIn(2) by several rows", 0, () -> rows.dropsIn(2));
        Check.answers("dropsIn(10) by several rows", 0, () -> rows.dropsIn(10));
        ShawlKnitter emptying = soonEmpty();
        Check.answers("dropsIn(1)", 1, () -> emptying.dropsIn(1));
        Check.answers("dropsIn(10)", 1, () -> emptying.dropsIn(10));
        Check.refuses("dropsIn(0)", BAD_ARGUMENT, () -> knitter.dropsIn(0));
        Check.refuses("dropsIn(11)", BAD_ARGUMENT, () -> knitter.dropsIn(11));
        Check.refuses("dropsIn(-1)", BAD_ARGUMENT, () -> knitter.dropsIn(-1));
        ShawlKnitter late = ready(0, 1);
        late.knit(10);
        late.knit(10);
        late.knit(10);
        late.addPatternRow(1);
        Check.answers("dropsIn(5) after 30 courses", 0, () -> late.dropsIn(5));
        Check.answers("dropsIn(6) after 30 courses", 1, () -> late.dropsIn(6));
    }

    private static void coursesPossible() {
        Check.promise(35, "coursesPossible");
        Check.answers("coursesPossible() at first", 0, () -> new ShawlKnitter().coursesPossible());
        ShawlKnitter knitter = ready(0, 0);
        knitter.setTension(1);
        Check.answers("coursesPossible() up to the limit", 30, knitter::coursesPossible);
        knitter.knit(7);
        Check.answers("coursesPossible() after 7 courses", 23, knitter::coursesPossible);
        knitter.knit(10);
        knitter.knit(10);
        knitter.knit(3);
        Check.answers("coursesPossible() after 30 courses", 0, knitter::coursesPossible);
        ShawlKnitter wide = ready(0, 9);
        Check.answers("coursesPossible() with 200 units for 30 each", 6, wide::coursesPossible);
        wide.setTension(4);
        Check.answers("coursesPossible() with 200 units for 40 each", 5, wide::coursesPossible);
        wide.selectFeeder(1);
        Check.answers("coursesPossible() without yarn", 0, wide::coursesPossible);
        ShawlKnitter slipping = ready(0, 1);
        slipping.addPatternRow(1);
        slipping.addPatternRow(1);
        slipping.addPatternRow(0);
        String before = View.of(slipping);
        Check.answers("coursesPossible() up to an empty course", 2, slipping::coursesPossible);
        Check.same("the knitter after coursesPossible", before, View.of(slipping));
        ShawlKnitter emptying = soonEmpty();
        Check.answers("coursesPossible() up to a course whose loops have dropped", 1, emptying::coursesPossible);
        ShawlKnitter narrowing = ready(0, 23);
        narrowing.addPatternRow(1);
        narrowing.setTension(6);
        // 18 units are for each course; only the loops that are slipped drop.
        Check.answers("coursesPossible() while loops drop", 11, narrowing::coursesPossible);
    }
}
