import java.util.NoSuchElementException;

/** Promises 1 to 18: a new object, and the needles. */
public final class NeedlesTest {
    private static final Class<IndexOutOfBoundsException> NO_INDEX = IndexOutOfBoundsException.class;
    private static final Class<IllegalArgumentException> BAD_ARGUMENT = IllegalArgumentException.class;
    private static final Class<NoSuchElementException> NO_ELEMENT = NoSuchElementException.class;

    public static void main(String[] arguments) {
        newObject();
        castOn();
        castOff();
        hold();
        release();
        dropStitch();
        pickUp();
        transfer();
        transferRejections();
        isInWork();
        isOnHold();
        loopsOn();
        ageOn();
        needlesInWork();
        needlesOnHold();
        loopCount();
        longestRun();
        nextDropped();
        Check.finish();
    }

    /** Needles 4 to 9 in work, and 99 units of yarn in the feeder 0. */
    private static ShawlKnitter ready() {
        ShawlKnitter knitter = new ShawlKnitter();
        knitter.castOn(4, 9);
        knitter.addYarn(0, 99);
        return knitter;
    }

    private static void newObject() {
        Check.promise(1, "a new object");
        ShawlKnitter knitter = new ShawlKnitter();
        Check.same("a new knitter", "bed . . . . . . . . . . . . . . . . . . . . . . . . yarn 0 0 0 0 feeder 0"
                + " tension 3 pattern courses totals 0 0 0 0 rejection NoSuchElementException"
                + " NoSuchElementException NoSuchElementException"
                + " offset NoSuchElementException output IndexOutOfBoundsException", View.of(knitter));
        Check.refuses("undo()", IllegalStateException.class, knitter::undo);
        Check.refuses("restoreSnapshot()", IllegalStateException.class, knitter::restoreSnapshot);
        Check.answers("appendInput('x')", 1, () -> knitter.appendInput('x'));
    }

    private static void castOn() {
        Check.promise(2, "castOn");
        ShawlKnitter knitter = new ShawlKnitter();
        Check.answers("castOn(4, 9)", 6, () -> knitter.castOn(4, 9));
        Check.answers("castOn(23, 23)", 7, () -> knitter.castOn(23, 23));
        Check.answers("castOn(0, 0)", 8, () -> knitter.castOn(0, 0));
        Check.same("the bed", "bed 1/0 . . . 1/0 1/0 1/0 1/0 1/0 1/0 . . . . . . . . . . . . . 1/0 ",
                View.ofData(knitter).split("yarn")[0]);
        Check.answers("castOn(0, 23) on an empty bed", 24, () -> new ShawlKnitter().castOn(0, 23));
        Check.rejects("castOn(2, 12)", ShawlKnitter.IN_WORK, 4, knitter, () -> knitter.castOn(2, 12));
        Check.rejects("castOn(9, 12)", ShawlKnitter.IN_WORK, 9, knitter, () -> knitter.castOn(9, 12));
        ShawlKnitter other = ready();
        other.dropStitch(5);
        Check.rejects("castOn(5, 5) without loops", ShawlKnitter.IN_WORK, 5, other, () -> other.castOn(5, 5));
        Check.refusesIdly("castOn(-1, 5)", NO_INDEX, other, () -> other.castOn(-1, 5));
        Check.refuses("castOn(5, 24)", NO_INDEX, () -> other.castOn(5, 24));
        Check.refuses("castOn(24, 0), which is reversed, too", NO_INDEX, () -> other.castOn(24, 0));
        Check.refuses("castOn(0, -1), which is reversed, too", NO_INDEX, () -> other.castOn(0, -1));
        Check.refuses("castOn at the least ints", NO_INDEX, () -> other.castOn(Integer.MIN_VALUE, Integer.MAX_VALUE));
        Check.refusesIdly("castOn(6, 5), which is in work, too", BAD_ARGUMENT, other, () -> other.castOn(6, 5));
    }

    private static void castOff() {
        Check.promise(3, "castOff");
        ShawlKnitter knitter = ready();
        knitter.transfer(4, true);
        knitter.hold(7);
        knitter.addPatternRow(255);
        knitter.setTension(2);
        knitter.knit(2);
        Check.answers("castOff()", 5, knitter::castOff);
        Check.same("after castOff", "bed . . . . . . . . . . . . . . . . . . . . . . . . yarn 83 0 0 0 feeder 0"
                + " tension 2 pattern 11111111 courses totals 1 99 16 0", View.ofData(knitter));
        Check.rejects("castOff() without needles", ShawlKnitter.NO_LOOPS, 0, knitter, knitter::castOff);
        knitter.castOn(7, 8);
        Check.answers("isOnHold(7)", false, () -> knitter.isOnHold(7));
        ShawlKnitter bare = new ShawlKnitter();
        bare.castOn(10, 12);
        bare.dropStitch(10);
        bare.dropStitch(11);
        bare.dropStitch(12);
        Check.rejects("castOff() without loops", ShawlKnitter.NO_LOOPS, 3, bare, bare::castOff);
        ShawlKnitter doubled = ready();
        doubled.transfer(4, true);
        doubled.transfer(5, true);
        Check.answers("castOff() with several loops on a needle", 6, doubled::castOff);
    }

    private static void hold() {
        Check.promise(4, "hold");
        ShawlKnitter knitter = ready();
        Check.answers("hold(5)", 1, () -> knitter.hold(5));
        Check.answers("hold(9)", 2, () -> knitter.hold(9));
        Check.rejects("hold(5) again", ShawlKnitter.ON_HOLD, 5, knitter, () -> knitter.hold(5));
        Check.rejects("hold(3)", ShawlKnitter.NOT_IN_WORK, 3, knitter, () -> knitter.hold(3));
        knitter.dropStitch(6);
        Check.answers("hold(6) without loops", 3, () -> knitter.hold(6));
        Check.refusesIdly("hold(24)", NO_INDEX, knitter, () -> knitter.hold(24));
        Check.refuses("hold(-1)", NO_INDEX, () -> knitter.hold(-1));
    }

    private static void release() {
        Check.promise(5, "release");
        ShawlKnitter knitter = ready();
        knitter.hold(5);
        knitter.hold(6);
        Check.answers("release(5)", 1, () -> knitter.release(5));
        Check.rejects("release(5) again", ShawlKnitter.NOT_ON_HOLD, 5, knitter, () -> knitter.release(5));
        Check.rejects("release(0)", ShawlKnitter.NOT_ON_HOLD, 0, knitter, () -> knitter.release(0));
        Check.answers("release(6)", 0, () -> knitter.release(6));
        Check.refusesIdly("release(24)", NO_INDEX, knitter, () -> knitter.release(24));
        Check.refuses("release(-1)", NO_INDEX, () -> knitter.release(-1));
    }

    private static void dropStitch() {
        Check.promise(6, "dropStitch");
        ShawlKnitter knitter = ready();
        knitter.transfer(4, true);
        knitter.transfer(5, true);
        knitter.hold(6);
        Check.answers("dropStitch(6) with 3 loops", 3, () -> knitter.dropStitch(6));
        Check.answers("isInWork(6)", true, () -> knitter.isInWork(6));
        Check.answers("isOnHold(6)", true, () -> knitter.isOnHold(6));
        Check.answers("dropStitch(9)", 1, () -> knitter.dropStitch(9));
        Check.answers("droppedLoops()", 4, knitter::droppedLoops);
        Check.rejects("dropStitch(6) again", ShawlKnitter.NO_LOOPS, 4, knitter, () -> knitter.dropStitch(6));
        Check.rejects("dropStitch(0)", ShawlKnitter.NOT_IN_WORK, 0, knitter, () -> knitter.dropStitch(0));
        Check.refuses("dropStitch(24)", NO_INDEX, () -> knitter.dropStitch(24));
        Check.refuses("dropStitch(-1)", NO_INDEX, () -> knitter.dropStitch(-1));
    }

    private static void pickUp() {
        Check.promise(7, "pickUp");
        ShawlKnitter knitter = ready();
        knitter.addPatternRow(254);
        knitter.knit(1);
        knitter.dropStitch(8);
        Check.answers("pickUp(8)", 83, () -> knitter.pickUp(8));
        Check.answers("loopsOn(8)", 1, () -> knitter.loopsOn(8));
        Check.answers("ageOn(8)", 0, () -> knitter.ageOn(8));
        Check.answers("yarnUsed()", 16, knitter::yarnUsed);
        Check.rejects("pickUp(8) again", ShawlKnitter.HAS_LOOPS, 1, knitter, () -> knitter.pickUp(8));
        knitter.transfer(4, true);
        Check.rejects("pickUp(5) with 2 loops", ShawlKnitter.HAS_LOOPS, 2, knitter, () -> knitter.pickUp(5));
        Check.refuses("pickUp(24)", NO_INDEX, () -> knitter.pickUp(24));
        Check.refuses("pickUp(-1)", NO_INDEX, () -> knitter.pickUp(-1));
        ShawlKnitter other = ready();
        other.selectFeeder(2);
        Check.rejects("pickUp(0)", ShawlKnitter.NOT_IN_WORK, 0, other, () -> other.pickUp(0));
        Check.rejects("pickUp(4)", ShawlKnitter.HAS_LOOPS, 1, other, () -> other.pickUp(4));
        other.dropStitch(4);
        Check.rejects("pickUp(4) without yarn", ShawlKnitter.NO_YARN, 1, other, () -> other.pickUp(4));
        other.addYarn(2, 1);
        other.hold(4);
        Check.answers("pickUp(4) with the last unit", 0, () -> other.pickUp(4));
        Check.answers("isOnHold(4)", true, () -> other.isOnHold(4));
    }

    private static void transfer() {
        Check.promise(8, "transfer");
        ShawlKnitter knitter = ready();
        knitter.addPatternRow(0x70);
        knitter.hold(4);
        knitter.knit(2);
        // The needles 4, 7, 8 and 9 have now the age 2, and 5 and 6 the age 0.
        Check.answers("transfer(4, true)", 2, () -> knitter.transfer(4, true));
        Check.answers("isInWork(4)", false, () -> knitter.isInWork(4));
        Check.answers("isOnHold(4)", false, () -> knitter.isOnHold(4));
        Check.answers("loopsOn(4)", 0, () -> knitter.loopsOn(4));
        Check.answers("isOnHold(5)", false, () -> knitter.isOnHold(5));
        Check.answers("ageOn(5), the greater one came", 2, () -> knitter.ageOn(5));
        knitter.hold(7);
        Check.answers("transfer(6, true)", 2, () -> knitter.transfer(6, true));
        Check.answers("ageOn(7), the greater one was there", 2, () -> knitter.ageOn(7));
        Check.answers("isOnHold(7)", true, () -> knitter.isOnHold(7));
        Check.answers("transfer(8, false)", 3, () -> knitter.transfer(8, false));
        Check.answers("droppedLoops()", 0, knitter::droppedLoops);
        ShawlKnitter empty = ready();
        empty.addPatternRow(0x80);
        empty.knit(3);
        empty.dropStitch(5);
        Check.answers("transfer(4, true) to no loops", 1, () -> empty.transfer(4, true));
        Check.answers("ageOn(5), as it came", 3, () -> empty.ageOn(5));
        empty.dropStitch(6);
        empty.addYarn(0, 50);
        Check.answers("transfer(7, false), just knit, to no loops", 1, () -> empty.transfer(7, false));
        Check.answers("ageOn(6), as it came", 0, () -> empty.ageOn(6));
        ShawlKnitter later = ready();
        later.dropStitch(5);
        later.knit(4);
        Check.answers("transfer(6, false), to no loops since four courses", 1, () -> later.transfer(6, false));
        Check.answers("ageOn(5), as it came", 0, () -> later.ageOn(5));
    }

    private static void transferRejections() {
        ShawlKnitter knitter = new ShawlKnitter();
        knitter.castOn(0, 4);
        knitter.castOn(23, 23);
        Check.rejects("transfer(5, false)", ShawlKnitter.NOT_IN_WORK, 5, knitter, () -> knitter.transfer(5, false));
        Check.rejects("transfer(0, false)", ShawlKnitter.BED_END, 0, knitter, () -> knitter.transfer(0, false));
        Check.rejects("transfer(23, true)", ShawlKnitter.BED_END, 23, knitter, () -> knitter.transfer(23, true));
        ShawlKnitter other = new ShawlKnitter();
        other.castOn(0, 4);
        Check.rejects("transfer(4, true)", ShawlKnitter.NO_PARTNER, 5, other, () -> other.transfer(4, true));
        other.transfer(2, false);
        Check.rejects("transfer(3, false)", ShawlKnitter.NO_PARTNER, 2, other, () -> other.transfer(3, false));
        other.castOn(2, 2);
        other.transfer(3, false);
        Check.rejects("transfer(2, false)", ShawlKnitter.LOOP_LIMIT, 4, other, () -> other.transfer(2, false));
        other.transfer(0, true);
        Check.rejects("transfer(1, true)", ShawlKnitter.LOOP_LIMIT, 5, other, () -> other.transfer(1, true));
        knitter.dropStitch(0);
        Check.rejects("transfer(0, false) without loops", ShawlKnitter.NO_LOOPS, 6, knitter,
                () -> knitter.transfer(0, false));
        Check.refuses("transfer(24, false)", NO_INDEX, () -> knitter.transfer(24, false));
        Check.refuses("transfer(-1, true)", NO_INDEX, () -> knitter.transfer(-1, true));
    }

    private static void isInWork() {
        Check.promise(9, "isInWork");
        ShawlKnitter knitter = ready();
        Check.answers("isInWork(3)", false, () -> knitter.isInWork(3));
        Check.answers("isInWork(4)", true, () -> knitter.isInWork(4));
        Check.answers("isInWork(9)", true, () -> knitter.isInWork(9));
        Check.answers("isInWork(10)", false, () -> knitter.isInWork(10));
        knitter.dropStitch(9);
        Check.answers("isInWork(9) without loops", true, () -> knitter.isInWork(9));
        Check.answers("isInWork(0)", false, () -> knitter.isInWork(0));
        Check.answers("isInWork(23)", false, () -> knitter.isInWork(23));
        Check.refuses("isInWork(24)", NO_INDEX, () -> knitter.isInWork(24));
        Check.refuses("isInWork(-1)", NO_INDEX, () -> knitter.isInWork(-1));
    }

    private static void isOnHold() {
        Check.promise(10, "isOnHold");
        ShawlKnitter knitter = ready();
        Check.answers("isOnHold(5) at first", false, () -> knitter.isOnHold(5));
        knitter.hold(5);
        Check.answers("isOnHold(5)", true, () -> knitter.isOnHold(5));
        Check.answers("isOnHold(6)", false, () -> knitter.isOnHold(6));
        knitter.release(5);
        Check.answers("isOnHold(5) after its release", false, () -> knitter.isOnHold(5));
        Check.answers("isOnHold(0)", false, () -> knitter.isOnHold(0));
        Check.answers("isOnHold(23)", false, () -> knitter.isOnHold(23));
        Check.refuses("isOnHold(24)", NO_INDEX, () -> knitter.isOnHold(24));
        Check.refuses("isOnHold(-1)", NO_INDEX, () -> knitter.isOnHold(-1));
    }

    private static void loopsOn() {
        Check.promise(11, "loopsOn");
        ShawlKnitter knitter = ready();
        Check.answers("loopsOn(3)", 0, () -> knitter.loopsOn(3));
        Check.answers("loopsOn(4)", 1, () -> knitter.loopsOn(4));
        knitter.transfer(4, true);
        knitter.transfer(5, true);
        Check.answers("loopsOn(6)", 3, () -> knitter.loopsOn(6));
        knitter.knit(1);
        Check.answers("loopsOn(6) after a course", 1, () -> knitter.loopsOn(6));
        Check.answers("droppedLoops()", 0, knitter::droppedLoops);
        Check.answers("loopsOn(0)", 0, () -> knitter.loopsOn(0));
        Check.answers("loopsOn(23)", 0, () -> knitter.loopsOn(23));
        Check.refuses("loopsOn(24)", NO_INDEX, () -> knitter.loopsOn(24));
        Check.refuses("loopsOn(-1)", NO_INDEX, () -> knitter.loopsOn(-1));
    }

    private static void ageOn() {
        Check.promise(12, "ageOn");
        ShawlKnitter knitter = ready();
        knitter.addPatternRow(0xF0);
        knitter.hold(5);
        Check.answers("ageOn(4)", 0, () -> knitter.ageOn(4));
        knitter.knit(5);
        Check.answers("ageOn(5), on hold", 5, () -> knitter.ageOn(5));
        Check.answers("ageOn(8), slipped", 5, () -> knitter.ageOn(8));
        Check.answers("ageOn(4), knit", 0, () -> knitter.ageOn(4));
        knitter.knit(1);
        Check.refuses("ageOn(8), dropped", NO_ELEMENT, () -> knitter.ageOn(8));
        Check.refuses("ageOn(0), not in work", NO_ELEMENT, () -> knitter.ageOn(0));
        Check.refuses("ageOn(23), not in work", NO_ELEMENT, () -> knitter.ageOn(23));
        Check.refuses("ageOn(24)", NO_INDEX, () -> knitter.ageOn(24));
        Check.refuses("ageOn(-1)", NO_INDEX, () -> knitter.ageOn(-1));
    }

    private static void needlesInWork() {
        Check.promise(13, "needlesInWork");
        ShawlKnitter knitter = new ShawlKnitter();
        Check.answers("needlesInWork() at first", 0, knitter::needlesInWork);
        knitter.castOn(0, 23);
        Check.answers("needlesInWork()", 24, knitter::needlesInWork);
        knitter.dropStitch(3);
        knitter.transfer(8, true);
        Check.answers("needlesInWork() after a transfer", 23, knitter::needlesInWork);
    }

    private static void needlesOnHold() {
        Check.promise(14, "needlesOnHold");
        ShawlKnitter knitter = ready();
        Check.answers("needlesOnHold() at first", 0, knitter::needlesOnHold);
        knitter.hold(4);
        knitter.hold(9);
        Check.answers("needlesOnHold()", 2, knitter::needlesOnHold);
        knitter.transfer(4, true);
        Check.answers("needlesOnHold() after a transfer", 1, knitter::needlesOnHold);
        knitter.castOff();
        Check.answers("needlesOnHold() after castOff", 0, knitter::needlesOnHold);
    }

    private static void loopCount() {
        Check.promise(15, "loopCount");
        ShawlKnitter knitter = ready();
        Check.answers("loopCount()", 6, knitter::loopCount);
        knitter.transfer(4, true);
        Check.answers("loopCount() after a transfer", 6, knitter::loopCount);
        knitter.dropStitch(5);
        Check.answers("loopCount() after a drop", 4, knitter::loopCount);
        Check.answers("loopCount() at first", 0, () -> new ShawlKnitter().loopCount());
    }

    private static void longestRun() {
        runIs("at first", 0, new ShawlKnitter());
        ShawlKnitter knitter = new ShawlKnitter();
        knitter.castOn(0, 23);
        runIs("with all needles", 24, knitter);
        knitter.dropStitch(0);
        runIs("up to the end of the bed", 23, knitter);
        knitter.hold(12);
        runIs("with a needle on hold", 23, knitter);
        knitter.dropStitch(9);
        runIs("with the longer run at the end", 14, knitter);
        knitter.dropStitch(12);
        runIs("with a run of two between", 11, knitter);
        knitter.transfer(18, true);
        runIs("with a needle out of work", 8, knitter);
        ShawlKnitter start = new ShawlKnitter();
        start.castOn(0, 2);
        start.castOn(4, 5);
        start.castOn(23, 23);
        runIs("with the longest run at the start", 3, start);
    }

    private static void runIs(String when, int due, ShawlKnitter knitter) {
        Check.promise(16, "longestRun");
        Check.answers("longestRun() " + when, due, knitter::longestRun);
        Check.promise(17, "longestRunByMask");
        Check.answers("longestRunByMask() " + when, due, knitter::longestRunByMask);
    }

    private static void nextDropped() {
        Check.promise(18, "nextDropped");
        ShawlKnitter knitter = ready();
        Check.refuses("nextDropped(0), none", NO_ELEMENT, () -> knitter.nextDropped(0));
        knitter.dropStitch(5);
        knitter.dropStitch(8);
        knitter.hold(8);
        Check.answers("nextDropped(0)", 5, () -> knitter.nextDropped(0));
        Check.answers("nextDropped(5)", 5, () -> knitter.nextDropped(5));
        Check.answers("nextDropped(6), on hold", 8, () -> knitter.nextDropped(6));
        Check.refuses("nextDropped(9)", NO_ELEMENT, () -> knitter.nextDropped(9));
        knitter.castOn(23, 23);
        knitter.dropStitch(23);
        Check.answers("nextDropped(23)", 23, () -> knitter.nextDropped(23));
        Check.refuses("nextDropped(24)", NO_INDEX, () -> knitter.nextDropped(24));
        Check.refuses("nextDropped(-1)", NO_INDEX, () -> knitter.nextDropped(-1));
    }
}
