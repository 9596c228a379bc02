import java.util.function.IntPredicate;

/** The sentences of promises 1 to 18: a new object, and the needles. */
final class NeedleEdges extends Edge {
    private static final Setup FULL = bed(0, 23);
    /** The needles 0 to 3, each with as many loops as its index says. */
    private static final Setup NONE_TO_THREE = and(bed(3, 3), loops(3, 3), bed(1, 2),
            knitter -> knitter.transfer(1, true), bed(0, 1), drop(0));

    private NeedleEdges() {
    }

    static void run() {
        newObject();
        castOn();
        rangesOfCastOn();
        castOnOfNoRange();
        castOnRejections();
        castOff();
        hold();
        release();
        dropStitch();
        pickUp();
        pickUpRejections();
        whatIsTransferred();
        transfer();
        transferRejections();
        questionsOfOneNeedle();
        ageOn();
        countsOfNeedles();
        longestRun();
        nextDropped();
    }

    private static void newObject() {
        sentence(1, "Creates a machine without yarn.");
        indexesAre(4, "yarnIn", NEW, 0, ShawlKnitter::yarnIn);
        answers("yarnAdded()", 0, NEW, ShawlKnitter::yarnAdded);
        rejects("pickUp(0) of a needle without loops", ShawlKnitter.NO_YARN, 1, and(bed(0, 0), drop(0)),
                knitter -> knitter.pickUp(0));
        rejects("knit(1)", ShawlKnitter.NO_YARN, 3, bed(0, 0), knitter -> knitter.knit(1));
    }

    // ---- castOn

    private static void castOn() {
        sentence(2, "puts all needles of a range into work, each with one loop of age 0.");
        bedIs("after castOn(0, 0)", "1.......................", bed(0, 0));
        bedIs("after castOn(23, 23)", ".......................1", bed(23, 23));
        bedIs("after castOn(22, 23)", "......................11", bed(22, 23));
        bedIs("after castOn(0, 23)", "111111111111111111111111", FULL);
        indexesAre(24, "ageOn", FULL, 0, ShawlKnitter::ageOn);
        Setup again = and(bed(3, 5), hold(4), yarn(0, 50), courses(2), knitter -> knitter.transfer(4, true), bed(4, 4));
        bedIs("after a needle has come again", "...112..................", again);
        answers("ageOn(4) after it has come again", 0, again, knitter -> knitter.ageOn(4));
        answers("isOnHold(4) after it has come again", false, again, knitter -> knitter.isOnHold(4));
        sentence(2, "Returns the number of needles in work after the call.");
        answers("castOn(23, 23)", 1, NEW, knitter -> knitter.castOn(23, 23));
        answers("castOn(0, 23)", 24, NEW, knitter -> knitter.castOn(0, 23));
        answers("castOn(0, 0) as the last one", 24, bed(1, 23), knitter -> knitter.castOn(0, 0));
        answers("castOn(0, 0) beside one without loops", 2, and(bed(5, 5), drop(5)), knitter -> knitter.castOn(0, 0));
    }

    private static void bedIs(String when, String due, Setup setup) {
        answers("the bed " + when, due, setup, Edge::bedOf);
    }

    private static void rangesOfCastOn() {
        sentence(2, "- `first`: the first needle of the range");
        for (int needle = 0; needle < 24; needle++) {
            bedIs("after castOn(" + needle + ", 23)", ".".repeat(needle) + "1".repeat(24 - needle), bed(needle, 23));
        }
        sentence(2, "- `last`: the last needle of the range");
        for (int needle = 0; needle < 24; needle++) {
            bedIs("after castOn(0, " + needle + ")", "1".repeat(needle + 1) + ".".repeat(23 - needle), bed(0, needle));
        }
    }

    private static void castOnOfNoRange() {
        sentence(2, "Throws `IndexOutOfBoundsException` if there is no such needle, for either argument");
        answers("castOn(0, 23)", 24, NEW, knitter -> knitter.castOn(0, 23));
        int[][] wrong = {{-1, 5}, {5, 24}, {24, 24}, {-1, -1}, {-1, 24}, {24, 5}, {5, -1}, {24, -1},
            {Integer.MIN_VALUE, 5}, {5, Integer.MAX_VALUE}, {Integer.MIN_VALUE, Integer.MAX_VALUE},
            {Integer.MAX_VALUE, Integer.MIN_VALUE}};
        for (int[] range : wrong) {
            refuses("castOn(" + range[0] + ", " + range[1] + ")", NO_INDEX, bed(9, 9),
                    knitter -> knitter.castOn(range[0], range[1]));
        }
        sentence(2, "Throws `IllegalArgumentException` if first is greater than last");
        answers("castOn(5, 5)", 1, NEW, knitter -> knitter.castOn(5, 5));
        answers("castOn(5, 6)", 2, NEW, knitter -> knitter.castOn(5, 6));
        refuses("castOn(6, 5)", BAD_ARGUMENT, NEW, knitter -> knitter.castOn(6, 5));
        refuses("castOn(23, 0)", BAD_ARGUMENT, NEW, knitter -> knitter.castOn(23, 0));
        refuses("castOn(6, 5) in work", BAD_ARGUMENT, FULL, knitter -> knitter.castOn(6, 5));
    }

    private static void castOnRejections() {
        sentence(2, "Throws `UnsupportedOperationException` if the call is rejected with the reason IN_WORK");
        Setup middle = bed(4, 9);
        answers("castOn(0, 3)", 10, middle, knitter -> knitter.castOn(0, 3));
        answers("castOn(10, 12)", 9, middle, knitter -> knitter.castOn(10, 12));
        rejects("castOn(0, 4)", ShawlKnitter.IN_WORK, 4, middle, knitter -> knitter.castOn(0, 4));
        rejects("castOn(9, 12)", ShawlKnitter.IN_WORK, 9, middle, knitter -> knitter.castOn(9, 12));
        rejects("castOn(0, 23)", ShawlKnitter.IN_WORK, 4, middle, knitter -> knitter.castOn(0, 23));
        rejects("castOn(6, 6)", ShawlKnitter.IN_WORK, 6, middle, knitter -> knitter.castOn(6, 6));
        rejects("castOn(6, 6) without loops", ShawlKnitter.IN_WORK, 6, and(middle, drop(6)),
                knitter -> knitter.castOn(6, 6));
        rejects("castOn(0, 23) with the last one in work", ShawlKnitter.IN_WORK, 23, bed(23, 23),
                knitter -> knitter.castOn(0, 23));
        rejects("castOn(0, 0) with all in work", ShawlKnitter.IN_WORK, 0, FULL, knitter -> knitter.castOn(0, 0));
    }

    // ---- castOff, hold, release

    private static void castOff() {
        sentence(3, "takes all needles out of work, and finishes the shawl.");
        Setup off = ShawlKnitter::castOff;
        bedIs("after castOff() of all", "........................", and(FULL, off));
        bedIs("after castOff() of one with loops", "........................",
                and(bed(0, 5), drop(0, 1, 2, 3, 4), off));
        answers("finishedShawls()", 1, and(FULL, off), ShawlKnitter::finishedShawls);
        answers("droppedLoops()", 0, and(FULL, off), ShawlKnitter::droppedLoops);
        Setup rest = and(shawl(0), rows(7, 8, 9), yarn(3, 9), feeder(3), tension(6), drop(0),
                knitter -> knitter.pickUp(0));
        answers("the data after castOff()", "bed . . . . . . . . . . . . . . . . . . . . . . . . yarn 200 0 0 8"
                + " feeder 3 tension 6 pattern 11100000 00010000 10010000 courses totals 1 209 1 1", and(rest, off),
                View::ofData);
        sentence(3, "The courses of the shawl are removed, and no needle is on hold any more.");
        answers("courseCount() after 30 courses", 0, and(shawl(30), off), ShawlKnitter::courseCount);
        refuses("widthOf(0) after castOff()", NO_INDEX, and(shawl(1), off), knitter -> knitter.widthOf(0));
        Setup held = and(FULL, hold(0, 11, 23), off);
        answers("needlesOnHold()", 0, held, ShawlKnitter::needlesOnHold);
        answers("needlesOnHold() in a new shawl", 0, and(held, FULL), ShawlKnitter::needlesOnHold);
        sentence(3, "Returns the number of loops that were on needles.");
        answers("castOff() with one loop", 1, bed(23, 23), ShawlKnitter::castOff);
        answers("castOff() with one loop on each", 24, FULL, ShawlKnitter::castOff);
        answers("castOff() with 3 loops on one", 3, and(bed(0, 0), loops(0, 3)), ShawlKnitter::castOff);
        answers("castOff() with all but one dropped", 1, and(bed(0, 2), drop(0, 1)), ShawlKnitter::castOff);
        sentence(3, "Throws `UnsupportedOperationException` if the call is rejected with the reason NO_LOOPS");
        answers("castOff() with a loop on hold", 1, and(bed(0, 2), drop(0, 2), hold(1)), ShawlKnitter::castOff);
        rejects("castOff() of no needle", ShawlKnitter.NO_LOOPS, 0, NEW, ShawlKnitter::castOff);
        rejects("castOff() after castOff()", ShawlKnitter.NO_LOOPS, 0, and(FULL, off), ShawlKnitter::castOff);
        rejects("castOff() without loops", ShawlKnitter.NO_LOOPS, 3, and(bed(0, 2), drop(0, 1, 2)),
                ShawlKnitter::castOff);
    }

    private static void hold() {
        needlesAre(4, "hold", FULL, 1, ShawlKnitter::hold);
        sentence(4, "Puts a needle on hold.");
        for (int needle = 0; needle < 24; needle++) {
            bedIs("after hold(" + needle + ")", "1".repeat(needle) + "a" + "1".repeat(23 - needle),
                    and(FULL, hold(needle)));
        }
        bedIs("with none to 3 loops on hold", "habc....................", and(NONE_TO_THREE, hold(0, 1, 2, 3)));
        answers("ageOn(3) after hold(3)", 2, and(shawl(0), bed(3, 3), rows(1), courses(2), hold(3)),
                knitter -> knitter.ageOn(3));
        sentence(4, "Returns the number of needles on hold after the call.");
        answers("hold of the last one", 24, and(FULL, holdFrom(1)), knitter -> knitter.hold(0));
        answers("hold(23) beside others", 3, and(FULL, hold(0, 4)), knitter -> knitter.hold(23));
        sentence(4, "Throws `UnsupportedOperationException` if the call is rejected with the reason NOT_IN_WORK or"
                + " ON_HOLD");
        Setup middle = bed(4, 9);
        answers("hold(4)", 1, middle, knitter -> knitter.hold(4));
        answers("hold(9)", 1, middle, knitter -> knitter.hold(9));
        answers("hold(5) without loops", 1, and(middle, drop(5)), knitter -> knitter.hold(5));
        rejects("hold(3)", ShawlKnitter.NOT_IN_WORK, 3, middle, knitter -> knitter.hold(3));
        rejects("hold(10)", ShawlKnitter.NOT_IN_WORK, 10, middle, knitter -> knitter.hold(10));
        rejects("hold(0) on an empty bed", ShawlKnitter.NOT_IN_WORK, 0, NEW, knitter -> knitter.hold(0));
        rejects("hold(23) on an empty bed", ShawlKnitter.NOT_IN_WORK, 23, NEW, knitter -> knitter.hold(23));
        Setup once = and(middle, hold(4));
        rejects("hold(4) again", ShawlKnitter.ON_HOLD, 4, once, knitter -> knitter.hold(4));
        answers("hold(4) after its release", 1, and(once, knitter -> knitter.release(4)), knitter -> knitter.hold(4));
        rejects("hold(4) again, without loops", ShawlKnitter.ON_HOLD, 4, and(once, drop(4)),
                knitter -> knitter.hold(4));
        rejects("hold(23) with all on hold", ShawlKnitter.ON_HOLD, 23, and(FULL, holdFrom(0)),
                knitter -> knitter.hold(23));
    }

    private static Setup holdFrom(int first) {
        return knitter -> {
            for (int needle = first; needle < 24; needle++) {
                knitter.hold(needle);
            }
        };
    }

    private static void release() {
        needlesAre(5, "release", and(FULL, holdFrom(0)), 23, ShawlKnitter::release);
        sentence(5, "Takes a needle off hold.");
        for (int needle = 0; needle < 24; needle++) {
            bedIs("after release(" + needle + ")", "a".repeat(needle) + "1" + "a".repeat(23 - needle),
                    and(FULL, holdFrom(0), release(needle)));
        }
        bedIs("with none to 3 loops off hold", "o123....................",
                and(NONE_TO_THREE, hold(0, 1, 2, 3), release(0, 1, 2, 3)));
        answers("ageOn(3) after release(3)", 2, and(shawl(0), bed(3, 3), hold(3), courses(2), release(3)),
                knitter -> knitter.ageOn(3));
        sentence(5, "Returns the number of needles on hold after the call.");
        answers("release(0), the last one", 0, and(FULL, hold(0)), knitter -> knitter.release(0));
        answers("release(23) beside others", 2, and(FULL, hold(0, 4, 23)), knitter -> knitter.release(23));
        sentence(5, "Throws `UnsupportedOperationException` if the call is rejected with the reason NOT_ON_HOLD");
        Setup middle = and(bed(4, 9), hold(5));
        answers("release(5)", 0, middle, knitter -> knitter.release(5));
        answers("release(5) without loops", 0, and(middle, drop(5)), knitter -> knitter.release(5));
        rejects("release(4)", ShawlKnitter.NOT_ON_HOLD, 4, middle, knitter -> knitter.release(4));
        rejects("release(6)", ShawlKnitter.NOT_ON_HOLD, 6, middle, knitter -> knitter.release(6));
        rejects("release(3), not in work", ShawlKnitter.NOT_ON_HOLD, 3, middle, knitter -> knitter.release(3));
        rejects("release(0) on an empty bed", ShawlKnitter.NOT_ON_HOLD, 0, NEW, knitter -> knitter.release(0));
        rejects("release(5) again", ShawlKnitter.NOT_ON_HOLD, 5, and(middle, knitter -> knitter.release(5)),
                knitter -> knitter.release(5));
    }

    // ---- dropStitch, pickUp

    private static void dropStitch() {
        needlesAre(6, "dropStitch", FULL, 1, ShawlKnitter::dropStitch);
        sentence(6, "Drops the loops of a needle, which stays in work.");
        bedIs("after dropStitch(0)", "o1......................", and(bed(0, 1), drop(0)));
        bedIs("after dropStitch(0) on hold", "h1......................", and(bed(0, 1), hold(0), drop(0)));
        answers("droppedLoops()", 3, and(bed(0, 0), loops(0, 3), drop(0)), ShawlKnitter::droppedLoops);
        sentence(6, "Returns the number of loops that are dropped.");
        for (int count = 1; count <= 3; count++) {
            answers("dropStitch(22)", count, and(bed(22, 22), loops(22, count)), knitter -> knitter.dropStitch(22));
        }
        sentence(6, "Throws `UnsupportedOperationException` if the call is rejected with the reason NOT_IN_WORK or"
                + " NO_LOOPS");
        answers("dropStitch(4)", 1, bed(4, 9), knitter -> knitter.dropStitch(4));
        rejects("dropStitch(3)", ShawlKnitter.NOT_IN_WORK, 3, bed(4, 9), knitter -> knitter.dropStitch(3));
        rejects("dropStitch(10)", ShawlKnitter.NOT_IN_WORK, 10, bed(4, 9), knitter -> knitter.dropStitch(10));
        rejects("dropStitch(0) on an empty bed", ShawlKnitter.NOT_IN_WORK, 0, NEW, knitter -> knitter.dropStitch(0));
        rejects("dropStitch(4) again", ShawlKnitter.NO_LOOPS, 6, and(bed(4, 9), drop(4)),
                knitter -> knitter.dropStitch(4));
        rejects("dropStitch(4) again, alone", ShawlKnitter.NO_LOOPS, 1, and(bed(4, 4), drop(4)),
                knitter -> knitter.dropStitch(4));
        answers("dropStitch(4) after pickUp(4)", 1, and(bed(4, 9), yarn(0, 1), drop(4), knitter -> knitter.pickUp(4)),
                knitter -> knitter.dropStitch(4));
    }

    private static void pickUp() {
        needlesAre(7, "pickUp", and(bed(0, 23), yarn(0, 24), knitter -> {
            for (int needle = 0; needle < 24; needle++) {
                knitter.dropStitch(needle);
            }
        }), 23, ShawlKnitter::pickUp);
        sentence(7, "a needle in work without loops gets one loop of age 0.");
        Setup old = and(bed(3, 4), hold(3), yarn(0, 50), courses(5), drop(3), knitter -> knitter.pickUp(3));
        answers("loopsOn(3)", 1, old, knitter -> knitter.loopsOn(3));
        answers("ageOn(3)", 0, old, knitter -> knitter.ageOn(3));
        answers("isOnHold(3)", true, old, knitter -> knitter.isOnHold(3));
        Setup fallen = and(bed(3, 4), hold(3), yarn(0, 50), courses(6), knitter -> knitter.pickUp(3));
        answers("ageOn(3), whose loops had dropped at the end of a course", 0, fallen, knitter -> knitter.ageOn(3));
        sentence(7, "This takes 1 unit of yarn from the active feeder.");
        Setup others = and(bed(0, 1), drop(0), yarn(0, 7), yarn(2, 1), yarn(3, 9), feeder(2));
        Setup picked = and(others, knitter -> knitter.pickUp(0));
        answers("yarnIn(0)", 7, picked, knitter -> knitter.yarnIn(0));
        answers("yarnIn(2)", 0, picked, knitter -> knitter.yarnIn(2));
        answers("yarnIn(3)", 9, picked, knitter -> knitter.yarnIn(3));
        answers("yarnUsed()", 1, picked, ShawlKnitter::yarnUsed);
        sentence(7, "Returns the yarn in the active feeder after the call.");
        answers("pickUp(0) with the last unit", 0, others, knitter -> knitter.pickUp(0));
        answers("pickUp(0) with a full feeder", 199, and(bed(0, 0), drop(0), yarn(0, 200), tension(9)),
                knitter -> knitter.pickUp(0));
    }

    private static void pickUpRejections() {
        sentence(7, "Throws `UnsupportedOperationException` if the call is rejected with the reason NOT_IN_WORK,"
                + " HAS_LOOPS or NO_YARN");
        Setup bare = and(bed(4, 9), drop(4, 9));
        Setup ready = and(bare, yarn(1, 1), feeder(1));
        answers("pickUp(4)", 0, ready, knitter -> knitter.pickUp(4));
        answers("pickUp(9)", 0, ready, knitter -> knitter.pickUp(9));
        rejects("pickUp(3)", ShawlKnitter.NOT_IN_WORK, 3, ready, knitter -> knitter.pickUp(3));
        rejects("pickUp(10)", ShawlKnitter.NOT_IN_WORK, 10, ready, knitter -> knitter.pickUp(10));
        for (int count = 1; count <= 3; count++) {
            rejects("pickUp(9) with loops", ShawlKnitter.HAS_LOOPS, count,
                    and(bed(9, 9), loops(9, count), yarn(0, 200)), knitter -> knitter.pickUp(9));
        }
        rejects("pickUp(4) without yarn", ShawlKnitter.NO_YARN, 1, bare, knitter -> knitter.pickUp(4));
        rejects("pickUp(4) with yarn in other feeders", ShawlKnitter.NO_YARN, 1, and(ready, feeder(0), yarn(2, 99)),
                knitter -> knitter.pickUp(4));
        rejects("pickUp(9) after the last unit", ShawlKnitter.NO_YARN, 1, and(ready, knitter -> knitter.pickUp(4)),
                knitter -> knitter.pickUp(9));
        rejects("pickUp(4) without yarn, at a high tension", ShawlKnitter.NO_YARN, 1, and(bare, tension(9)),
                knitter -> knitter.pickUp(4));
    }

    // ---- transfer

    private static void whatIsTransferred() {
        sentence(8, "Transfers all loops of a needle to the needle beside it.");
        for (int count = 1; count <= 3; count++) {
            Setup moved = and(bed(3, 3), loops(3, count), bed(4, 4), drop(4), knitter -> knitter.transfer(3, true));
            bedIs("after the transfer of all loops", "...." + count + "...................", moved);
            answers("loopCount() after it", count, moved, ShawlKnitter::loopCount);
            answers("droppedLoops() after it", 1, moved, ShawlKnitter::droppedLoops);
        }
        sentence(8, "- `toRight`: whether the loops go to the needle with the next greater index, and not to the one"
                + " with the next lower index");
        for (int index = 0; index < 23; index++) {
            int needle = index;
            bedIs("after transfer(" + needle + ", true)", "1".repeat(needle) + ".2" + "1".repeat(22 - needle),
                    and(FULL, knitter -> knitter.transfer(needle, true)));
            bedIs("after transfer(" + (needle + 1) + ", false)", "1".repeat(needle) + "2." + "1".repeat(22 - needle),
                    and(FULL, knitter -> knitter.transfer(needle + 1, false)));
        }
    }

    private static void transfer() {
        needlesAre(8, "transfer", FULL, 2, (knitter, needle) -> knitter.transfer(needle, needle < 23));
        sentence(8, "The needle is taken out of work, and is not on hold any more.");
        Setup held = and(bed(3, 4), hold(3), knitter -> knitter.transfer(3, true));
        bedIs("after the transfer", "....2...................", held);
        bedIs("after it has come again", "...12...................", and(held, bed(3, 3)));
        bedIs("after a transfer to one on hold", "...b....................",
                and(bed(3, 4), hold(3), knitter -> knitter.transfer(4, false)));
        sentence(8, "The age of the loops of the other needle becomes the greater one of both ages.");
        // The needle 3 gets the age of the courses in which it is on hold, and the needle 4 its own in the same way.
        for (int left = 0; left <= 5; left++) {
            for (int right = 0; right <= 5; right++) {
                Setup ages = ages(left, right);
                answers("ageOn(4)", Math.max(left, right), and(ages, knitter -> knitter.transfer(3, true)),
                        knitter -> knitter.ageOn(4));
                answers("ageOn(3)", Math.max(left, right), and(ages, knitter -> knitter.transfer(4, false)),
                        knitter -> knitter.ageOn(3));
            }
        }
        sentence(8, "Returns the number of loops on the other needle after the call.");
        answers("transfer to no loops", 1, and(bed(3, 4), drop(4)), knitter -> knitter.transfer(3, true));
        answers("transfer of 3 loops to none", 3, and(bed(3, 3), loops(3, 3), bed(4, 4), drop(4)),
                knitter -> knitter.transfer(3, true));
        answers("transfer of one to 2", 3, and(bed(3, 3), loops(3, 2), bed(4, 4)),
                knitter -> knitter.transfer(4, false));
    }

    /** The needles 3 and 4 with loops of these ages, 0 to 5, beside the needle 10, which knits all the time. */
    private static Setup ages(int left, int right) {
        return and(bed(3, 4), bed(10, 10), yarn(0, 99), tension(1), knitter -> {
            int longer = Math.max(left, right);
            for (int course = 0; course < longer; course++) {
                holdIf(knitter, 3, course == longer - left);
                holdIf(knitter, 4, course == longer - right);
                knitter.knit(1);
            }
        });
    }

    private static void holdIf(ShawlKnitter knitter, int needle, boolean applies) {
        if (applies) {
            knitter.hold(needle);
        }
    }

    private static void transferRejections() {
        sentence(8, "Throws `UnsupportedOperationException` if the call is rejected with the reason NOT_IN_WORK,"
                + " NO_LOOPS, BED_END, NO_PARTNER or LOOP_LIMIT");
        answers("transfer(4, true)", 2, bed(4, 5), knitter -> knitter.transfer(4, true));
        rejects("transfer(3, true)", ShawlKnitter.NOT_IN_WORK, 3, bed(4, 5), knitter -> knitter.transfer(3, true));
        rejects("transfer(6, false)", ShawlKnitter.NOT_IN_WORK, 6, bed(4, 5), knitter -> knitter.transfer(6, false));
        rejects("transfer(4, true) without loops", ShawlKnitter.NO_LOOPS, 2, and(bed(4, 5), drop(4)),
                knitter -> knitter.transfer(4, true));
        rejects("transfer(0, false)", ShawlKnitter.BED_END, 0, FULL, knitter -> knitter.transfer(0, false));
        rejects("transfer(23, true)", ShawlKnitter.BED_END, 23, FULL, knitter -> knitter.transfer(23, true));
        answers("transfer(0, true)", 2, FULL, knitter -> knitter.transfer(0, true));
        answers("transfer(23, false)", 2, FULL, knitter -> knitter.transfer(23, false));
        answers("transfer(1, false)", 2, FULL, knitter -> knitter.transfer(1, false));
        answers("transfer(22, true)", 2, FULL, knitter -> knitter.transfer(22, true));
        rejects("transfer(4, false)", ShawlKnitter.NO_PARTNER, 3, bed(4, 5), knitter -> knitter.transfer(4, false));
        rejects("transfer(5, true)", ShawlKnitter.NO_PARTNER, 6, bed(4, 5), knitter -> knitter.transfer(5, true));
        rejects("transfer(1, false) to 0", ShawlKnitter.NO_PARTNER, 0, bed(1, 1),
                knitter -> knitter.transfer(1, false));
        rejects("transfer(22, true) to 23", ShawlKnitter.NO_PARTNER, 23, bed(22, 22),
                knitter -> knitter.transfer(22, true));
        for (int left = 1; left <= 3; left++) {
            for (int right = 1; right <= 3; right++) {
                transferOfLoops(left, right);
            }
        }
    }

    /** Three loops together are accepted, and more are not, in both directions. */
    private static void transferOfLoops(int left, int right) {
        Setup setup = and(bed(3, 3), loops(3, left), bed(4, 4), loops(4, right));
        String call = " of " + left + " and " + right + " loops";
        if (left + right <= 3) {
            answers("transfer(3, true)" + call, left + right, setup, knitter -> knitter.transfer(3, true));
            answers("transfer(4, false)" + call, left + right, setup, knitter -> knitter.transfer(4, false));
        } else {
            rejects("transfer(3, true)" + call, ShawlKnitter.LOOP_LIMIT, left + right, setup,
                    knitter -> knitter.transfer(3, true));
            rejects("transfer(4, false)" + call, ShawlKnitter.LOOP_LIMIT, left + right, setup,
                    knitter -> knitter.transfer(4, false));
        }
    }

    // ---- questions

    private static void questionsOfOneNeedle() {
        needlesAre(9, "isInWork", FULL, true, ShawlKnitter::isInWork);
        needlesAre(9, "isInWork on an empty bed", NEW, false, ShawlKnitter::isInWork);
        sentence(9, "Returns whether it is in work.");
        indexesAre(24, "whether one needle alone is in work", NEW, true, (knitter, needle) -> {
            knitter.castOn(needle, needle);
            return isAlone(knitter, needle, knitter::isInWork);
        });
        answers("isInWork(7) without loops", true, and(FULL, drop(7)), knitter -> knitter.isInWork(7));
        sentence(10, "Returns whether it is on hold.");
        indexesAre(24, "whether one needle alone is on hold", FULL, true, (knitter, needle) -> {
            knitter.hold(needle);
            return isAlone(knitter, needle, knitter::isOnHold);
        });
        answers("isOnHold(7) without loops", true, and(FULL, hold(7), drop(7)), knitter -> knitter.isOnHold(7));
        needlesAre(10, "isOnHold", FULL, false, ShawlKnitter::isOnHold);
        needlesAre(10, "isOnHold of all", and(FULL, holdFrom(0)), true, ShawlKnitter::isOnHold);
        needlesAre(11, "loopsOn", FULL, 1, ShawlKnitter::loopsOn);
        needlesAre(11, "loopsOn on an empty bed", NEW, 0, ShawlKnitter::loopsOn);
        sentence(11, "Returns the number of loops, 0 to 3.");
        for (int needle : new int[] {0, 22}) {
            for (int count = 1; count <= 3; count++) {
                answers("loopsOn(" + needle + ")", count, and(bed(needle, needle), loops(needle, count)),
                        knitter -> knitter.loopsOn(needle));
            }
            answers("loopsOn(" + needle + ") after a drop", 0, and(FULL, drop(needle)),
                    knitter -> knitter.loopsOn(needle));
        }
    }

    /** The question is true of one needle, and false of all others. */
    private static boolean isAlone(ShawlKnitter knitter, int needle, IntPredicate question) {
        for (int other = 0; other < 24; other++) {
            if (question.test(other) != (other == needle)) {
                return false;
            }
        }
        return true;
    }

    private static void ageOn() {
        needlesAre(12, "ageOn", FULL, 0, ShawlKnitter::ageOn);
        sentence(12, "Throws `NoSuchElementException` if the needle has no loops");
        answers("ageOn(4) with a loop", 0, bed(4, 5), knitter -> knitter.ageOn(4));
        refuses("ageOn(4) without loops", NO_ELEMENT, and(bed(4, 5), drop(4)), knitter -> knitter.ageOn(4));
        refuses("ageOn(3), not in work", NO_ELEMENT, bed(4, 5), knitter -> knitter.ageOn(3));
        refuses("ageOn(0) on an empty bed", NO_ELEMENT, NEW, knitter -> knitter.ageOn(0));
        refuses("ageOn(23) on an empty bed", NO_ELEMENT, NEW, knitter -> knitter.ageOn(23));
        Setup aging = and(bed(4, 5), hold(4), yarn(0, 99));
        answers("ageOn(4) after 5 courses on hold", 5, and(aging, courses(5)), knitter -> knitter.ageOn(4));
        refuses("ageOn(4) after 6 courses on hold", NO_ELEMENT, and(aging, courses(6)), knitter -> knitter.ageOn(4));
    }

    private static void countsOfNeedles() {
        sentence(13, "Returns the number of needles.");
        answers("needlesInWork() at first", 0, NEW, ShawlKnitter::needlesInWork);
        answers("needlesInWork() of one without loops", 1, and(bed(23, 23), drop(23)), ShawlKnitter::needlesInWork);
        answers("needlesInWork() of all", 24, FULL, ShawlKnitter::needlesInWork);
        sentence(14, "Returns the number of needles.");
        answers("needlesOnHold() at first", 0, NEW, ShawlKnitter::needlesOnHold);
        answers("needlesOnHold() of none", 0, FULL, ShawlKnitter::needlesOnHold);
        answers("needlesOnHold() of one without loops", 1, and(FULL, hold(0), drop(0)), ShawlKnitter::needlesOnHold);
        answers("needlesOnHold() of all", 24, and(FULL, holdFrom(0)), ShawlKnitter::needlesOnHold);
        sentence(15, "Returns the number of loops.");
        answers("loopCount() at first", 0, NEW, ShawlKnitter::loopCount);
        answers("loopCount() of one", 1, bed(23, 23), ShawlKnitter::loopCount);
        answers("loopCount() without loops", 0, and(bed(23, 23), drop(23)), ShawlKnitter::loopCount);
        answers("loopCount() with 3 on each needle but the last", 70, NeedleEdges::castOnThrice,
                ShawlKnitter::loopCount);
    }

    private static void castOnThrice(ShawlKnitter knitter) {
        knitter.castOn(0, 23);
        for (int needle = 0; needle < 23; needle++) {
            for (int loop = 1; loop < 3; loop++) {
                knitter.transfer(needle + 1, false);
                knitter.castOn(needle + 1, needle + 1);
            }
        }
    }

    private static void longestRun() {
        for (int way = 0; way < 2; way++) {
            Asking run = way == 0 ? ShawlKnitter::longestRun : ShawlKnitter::longestRunByMask;
            sentence(16 + way, way == 0 ? "Returns the number of needles of the run, 0 if no needle has loops."
                    : "Returns the same length.");
            answers("the run at first", 0, NEW, run);
            answers("the run without loops", 0, and(bed(3, 4), drop(3, 4)), run);
            for (int length = 1; length <= 24; length++) {
                answers("the run from the first needle", length, bed(0, length - 1), run);
                answers("the run to the last needle", length, bed(24 - length, 23), run);
            }
            answers("two runs of 11, with two between", 11, and(bed(0, 10), bed(13, 23)), run);
            answers("a run of 11 and one of 12", 12, and(bed(0, 10), bed(12, 23)), run);
            answers("a run of 12 and one of 11", 12, and(bed(0, 11), bed(13, 23)), run);
            answers("needles at both ends, which are not adjacent", 1, and(bed(0, 0), bed(23, 23)), run);
            answers("every second needle", 1, NeedleEdges::castOnEverySecond, run);
            answers("a run with one without loops", 20, and(FULL, drop(3)), run);
            answers("a run with some on hold", 24, and(FULL, hold(0, 8, 23)), run);
        }
    }

    private static void castOnEverySecond(ShawlKnitter knitter) {
        for (int needle = 0; needle < 24; needle += 2) {
            knitter.castOn(needle, needle);
        }
    }

    private static void nextDropped() {
        needlesAre(18, "nextDropped", and(FULL, knitter -> {
            for (int needle = 0; needle < 24; needle++) {
                knitter.dropStitch(needle);
            }
        }), null, ShawlKnitter::nextDropped);
        sentence(18, "Returns the first needle at or after a needle that is in work and has no loops.");
        Setup dropped = and(bed(4, 9), drop(5, 8));
        answers("nextDropped(0)", 5, dropped, knitter -> knitter.nextDropped(0));
        answers("nextDropped(5)", 5, dropped, knitter -> knitter.nextDropped(5));
        answers("nextDropped(6)", 8, dropped, knitter -> knitter.nextDropped(6));
        answers("nextDropped(5) on hold", 5, and(dropped, hold(5)), knitter -> knitter.nextDropped(5));
        sentence(18, "Throws `NoSuchElementException` if there is none");
        answers("nextDropped(8)", 8, dropped, knitter -> knitter.nextDropped(8));
        refuses("nextDropped(9), as the bed does not go round", NO_ELEMENT, dropped, knitter -> knitter.nextDropped(9));
        answers("nextDropped(23)", 23, and(FULL, drop(23)), knitter -> knitter.nextDropped(23));
        refuses("nextDropped(23) with the one ahead", NO_ELEMENT, and(FULL, drop(22)),
                knitter -> knitter.nextDropped(23));
        refuses("nextDropped(0) with loops on all", NO_ELEMENT, FULL, knitter -> knitter.nextDropped(0));
        refuses("nextDropped(0) on an empty bed", NO_ELEMENT, NEW, knitter -> knitter.nextDropped(0));
        refuses("nextDropped(0) after pickUp", NO_ELEMENT,
                and(bed(0, 0), drop(0), yarn(0, 1), knitter -> knitter.pickUp(0)), knitter -> knitter.nextDropped(0));
    }
}
