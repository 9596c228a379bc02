/** The sentences of the terms about reasons, rejections, changes and exceptions. */
final class ReasonEdges extends Edge {
    private static final int TERMS = Document.TERMS;
    private static final Setup FULL = bed(0, 23);

    private ReasonEdges() {
    }

    static void run() {
        everyReason();
        reasonsOfNeedles();
        reasonsOfTransfers();
        reasonsOfLimits();
        reasonsOfCourses();
        reasonOfCommands();
        firstReason();
        rejectedCallChangesNothing();
        firstCourse();
        whatIsChange();
        whatIsNoChange();
        latestEight();
        whatUndoCovers();
        exceptionChangesNothing();
        firstException();
    }

    // ---- the reasons

    private static void everyReason() {
        sentence(TERMS, "Every reason is a constant, and has a detail that is described there.");
        int[] reasons = {ShawlKnitter.IN_WORK, ShawlKnitter.NOT_IN_WORK, ShawlKnitter.NO_LOOPS, ShawlKnitter.HAS_LOOPS,
            ShawlKnitter.ON_HOLD, ShawlKnitter.NOT_ON_HOLD, ShawlKnitter.BED_END, ShawlKnitter.NO_PARTNER,
            ShawlKnitter.LOOP_LIMIT, ShawlKnitter.NO_YARN, ShawlKnitter.YARN_LIMIT, ShawlKnitter.PATTERN_LIMIT,
            ShawlKnitter.COURSE_LIMIT, ShawlKnitter.NOTHING_TO_KNIT, ShawlKnitter.COMMAND_REJECTED};
        for (int number = 1; number <= reasons.length; number++) {
            int reason = reasons[number - 1];
            answers("the constant " + number, number, NEW, knitter -> reason);
        }
    }

    private static void reasonsOfNeedles() {
        sentence(TERMS, "`IN_WORK = 1`: Reason: a needle of the range is in work.");
        Setup some = and(bed(0, 0), bed(7, 7), bed(9, 9), bed(23, 23));
        answers("castOn(1, 6)", 10, some, knitter -> knitter.castOn(1, 6));
        rejects("castOn(0, 6)", ShawlKnitter.IN_WORK, 0, some, knitter -> knitter.castOn(0, 6));
        rejects("castOn(1, 7)", ShawlKnitter.IN_WORK, 7, some, knitter -> knitter.castOn(1, 7));
        rejects("castOn(1, 23)", ShawlKnitter.IN_WORK, 7, some, knitter -> knitter.castOn(1, 23));
        rejects("castOn(8, 23)", ShawlKnitter.IN_WORK, 9, some, knitter -> knitter.castOn(8, 23));
        rejects("castOn(10, 23)", ShawlKnitter.IN_WORK, 23, some, knitter -> knitter.castOn(10, 23));
        sentence(TERMS, "`NOT_IN_WORK = 2`: Reason: the needle is not in work.");
        for (int index : new int[] {1, 6, 8, 22}) {
            Setup ready = and(some, yarn(0, 9));
            rejects("hold", ShawlKnitter.NOT_IN_WORK, index, ready, knitter -> knitter.hold(index));
            rejects("dropStitch", ShawlKnitter.NOT_IN_WORK, index, ready, knitter -> knitter.dropStitch(index));
            rejects("pickUp", ShawlKnitter.NOT_IN_WORK, index, ready, knitter -> knitter.pickUp(index));
            rejects("transfer", ShawlKnitter.NOT_IN_WORK, index, ready, knitter -> knitter.transfer(index, true));
        }
        answers("hold(23)", 1, some, knitter -> knitter.hold(23));
        sentence(TERMS, "`NO_LOOPS = 3`: Reason: the needle has no loops, or no needle has loops.");
        Setup one = and(FULL, drop(7));
        rejects("dropStitch(7)", ShawlKnitter.NO_LOOPS, 24, one, knitter -> knitter.dropStitch(7));
        rejects("transfer(7, true)", ShawlKnitter.NO_LOOPS, 24, one, knitter -> knitter.transfer(7, true));
        answers("castOff()", 23, one, ShawlKnitter::castOff);
        rejects("castOff() of no needle", ShawlKnitter.NO_LOOPS, 0, NEW, ShawlKnitter::castOff);
        rejects("castOff() of one needle", ShawlKnitter.NO_LOOPS, 1, and(bed(7, 7), drop(7)), ShawlKnitter::castOff);
        sentence(TERMS, "`HAS_LOOPS = 4`: Reason: the needle has loops.");
        for (int count = 1; count <= 3; count++) {
            rejects("pickUp(7)", ShawlKnitter.HAS_LOOPS, count, and(bed(7, 7), loops(7, count), yarn(0, 9)),
                    knitter -> knitter.pickUp(7));
        }
        answers("pickUp(7) without loops", 8, and(bed(7, 7), drop(7), yarn(0, 9)), knitter -> knitter.pickUp(7));
        sentence(TERMS, "`ON_HOLD = 5`: Reason: the needle is on hold.");
        rejects("hold(0)", ShawlKnitter.ON_HOLD, 0, and(FULL, hold(0, 9)), knitter -> knitter.hold(0));
        rejects("hold(23)", ShawlKnitter.ON_HOLD, 23, and(FULL, hold(0, 23)), knitter -> knitter.hold(23));
        answers("hold(22)", 3, and(FULL, hold(0, 23)), knitter -> knitter.hold(22));
        sentence(TERMS, "`NOT_ON_HOLD = 6`: Reason: the needle is not on hold.");
        rejects("release(0)", ShawlKnitter.NOT_ON_HOLD, 0, and(FULL, hold(1)), knitter -> knitter.release(0));
        rejects("release(23)", ShawlKnitter.NOT_ON_HOLD, 23, NEW, knitter -> knitter.release(23));
        answers("release(1)", 0, and(FULL, hold(1)), knitter -> knitter.release(1));
    }

    private static void reasonsOfTransfers() {
        sentence(TERMS, "`BED_END = 7`: Reason: there is no needle beside the needle on this side.");
        rejects("transfer(0, false)", ShawlKnitter.BED_END, 0, FULL, knitter -> knitter.transfer(0, false));
        rejects("transfer(23, true)", ShawlKnitter.BED_END, 23, FULL, knitter -> knitter.transfer(23, true));
        rejects("transfer(0, false) alone", ShawlKnitter.BED_END, 0, bed(0, 0), knitter -> knitter.transfer(0, false));
        answers("transfer(0, true)", 2, FULL, knitter -> knitter.transfer(0, true));
        answers("transfer(23, false)", 2, FULL, knitter -> knitter.transfer(23, false));
        sentence(TERMS, "`NO_PARTNER = 8`: Reason: the needle beside the needle is not in work.");
        Setup gap = and(bed(0, 6), bed(8, 23));
        rejects("transfer(6, true)", ShawlKnitter.NO_PARTNER, 7, gap, knitter -> knitter.transfer(6, true));
        rejects("transfer(8, false)", ShawlKnitter.NO_PARTNER, 7, gap, knitter -> knitter.transfer(8, false));
        rejects("transfer(0, true) alone", ShawlKnitter.NO_PARTNER, 1, bed(0, 0), knitter -> knitter.transfer(0, true));
        answers("transfer(6, false)", 2, gap, knitter -> knitter.transfer(6, false));
        answers("transfer(6, true) to one without loops", 1, and(FULL, drop(7)), knitter -> knitter.transfer(6, true));
        sentence(TERMS, "`LOOP_LIMIT = 9`: Reason: a needle would have more than 3 loops.");
        answers("2 and 1 loops", 3, and(bed(7, 7), loops(7, 2), bed(8, 8)), knitter -> knitter.transfer(7, true));
        rejects("3 and 1 loops", ShawlKnitter.LOOP_LIMIT, 4, and(bed(7, 7), loops(7, 3), bed(8, 8)),
                knitter -> knitter.transfer(7, true));
        rejects("2 and 2 loops", ShawlKnitter.LOOP_LIMIT, 4, and(bed(7, 7), loops(7, 2), bed(8, 8), loops(8, 2)),
                knitter -> knitter.transfer(8, false));
        rejects("3 and 3 loops", ShawlKnitter.LOOP_LIMIT, 6, and(bed(7, 7), loops(7, 3), bed(8, 8), loops(8, 3)),
                knitter -> knitter.transfer(7, true));
        answers("3 loops and none", 3, and(bed(7, 7), loops(7, 3), bed(8, 8), drop(8)),
                knitter -> knitter.transfer(7, true));
    }

    private static void reasonsOfLimits() {
        sentence(TERMS, "`NO_YARN = 10`: Reason: the active feeder has too little yarn.");
        Setup seven = and(bed(1, 7), tension(5), yarn(1, 200));
        answers("knit(1) with 35 units", 7, and(seven, yarn(0, 35)), knitter -> knitter.knit(1));
        rejects("knit(1) with 34 units", ShawlKnitter.NO_YARN, 35, and(seven, yarn(0, 34)), knitter -> knitter.knit(1));
        rejects("knit(1) without yarn", ShawlKnitter.NO_YARN, 35, seven, knitter -> knitter.knit(1));
        rejects("pickUp(3) without yarn", ShawlKnitter.NO_YARN, 1, and(seven, drop(3)), knitter -> knitter.pickUp(3));
        answers("pickUp(3) with one unit", 0, and(seven, drop(3), yarn(0, 1)), knitter -> knitter.pickUp(3));
        sentence(TERMS, "`YARN_LIMIT = 11`: Reason: a feeder would have more than 200 units of yarn.");
        answers("addYarn(2, 99) to 101", 200, yarn(2, 101), knitter -> knitter.addYarn(2, 99));
        rejects("addYarn(2, 99) to 102", ShawlKnitter.YARN_LIMIT, 102, yarn(2, 102),
                knitter -> knitter.addYarn(2, 99));
        rejects("addYarn(2, 1) to 200", ShawlKnitter.YARN_LIMIT, 200, yarn(2, 200), knitter -> knitter.addYarn(2, 1));
        sentence(TERMS, "`PATTERN_LIMIT = 12`: Reason: the pattern has 6 rows.");
        answers("a sixth row", 6, rows(0, 0, 0, 0, 0), knitter -> knitter.addPatternRow(0));
        rejects("a seventh row", ShawlKnitter.PATTERN_LIMIT, 6, rows(0, 0, 0, 0, 0, 0),
                knitter -> knitter.addPatternRow(0));
        sentence(TERMS, "`COURSE_LIMIT = 13`: Reason: the shawl has 30 courses.");
        answers("a course 29", 1, shawl(29), knitter -> knitter.knit(1));
        rejects("a course 30", ShawlKnitter.COURSE_LIMIT, 30, shawl(30), knitter -> knitter.knit(1));
        rejects("ten courses more", ShawlKnitter.COURSE_LIMIT, 30, shawl(30), knitter -> knitter.knit(10));
        rejects("ten courses from 21 on", ShawlKnitter.COURSE_LIMIT, 30, shawl(21), knitter -> knitter.knit(10));
    }

    private static void reasonsOfCourses() {
        sentence(TERMS, "`NOTHING_TO_KNIT = 14`: Reason: the width of the course would be 0.");
        for (int course : new int[] {0, 1, 9, 10, 29}) {
            rejects("the course " + course, ShawlKnitter.NOTHING_TO_KNIT, course, and(shawl(course), hold(0)),
                    knitter -> knitter.knit(1));
        }
        rejects("the second course", ShawlKnitter.NOTHING_TO_KNIT, 1, and(shawl(0), rows(1, 2)),
                knitter -> knitter.knit(2));
        answers("a course of one needle", 1, and(shawl(0), bed(1, 1), hold(0)), knitter -> knitter.knit(1));
    }

    private static void reasonOfCommands() {
        sentence(TERMS, "`COMMAND_REJECTED = 15`: Reason: a command is rejected.");
        executes("c0-1;h0", 2, NEW);
        rejectsCommands("h0;c0-1", 0, ShawlKnitter.NOT_IN_WORK, NEW);
        rejectsCommands("c0-1;c1-2", 1, ShawlKnitter.IN_WORK, NEW);
        rejectsCommands("c0-1;d0;d0", 2, ShawlKnitter.NO_LOOPS, NEW);
        rejectsCommands("c0-1;h0;r0;u0", 3, ShawlKnitter.HAS_LOOPS, NEW);
        rejectsCommands("c0-1;h0;r0;h0;h0", 4, ShawlKnitter.ON_HOLD, NEW);
        rejectsCommands("r0", 0, ShawlKnitter.NOT_ON_HOLD, NEW);
        rejectsCommands("l0", 0, ShawlKnitter.BED_END, FULL);
        rejectsCommands("g0", 0, ShawlKnitter.NO_PARTNER, bed(0, 0));
        rejectsCommands("g0;g1;g2", 2, ShawlKnitter.LOOP_LIMIT, FULL);
        rejectsCommands("k1", 0, ShawlKnitter.NO_YARN, FULL);
        rejectsCommands("y0=99;y0=99;y0=3", 2, ShawlKnitter.YARN_LIMIT, NEW);
        rejectsCommands("p00000000", 0, ShawlKnitter.PATTERN_LIMIT, rows(1, 2, 3, 4, 5, 6));
        rejectsCommands("k1", 0, ShawlKnitter.COURSE_LIMIT, shawl(30));
        rejectsCommands("k1", 0, ShawlKnitter.NOTHING_TO_KNIT, NEW);
        rejectsCommands("q;".repeat(29) + "x", 29, ShawlKnitter.NO_LOOPS, NEW);
    }

    // ---- rejections

    private static void firstReason() {
        sentence(TERMS, "A call is rejected for the first reason that applies, in the order in which its method names"
                + " them.");
        rejects("dropStitch: NOT_IN_WORK, NO_LOOPS", ShawlKnitter.NOT_IN_WORK, 3, bed(0, 2),
                knitter -> knitter.dropStitch(3));
        rejects("pickUp: NOT_IN_WORK, NO_YARN", ShawlKnitter.NOT_IN_WORK, 3, NEW, knitter -> knitter.pickUp(3));
        rejects("pickUp: HAS_LOOPS, NO_YARN", ShawlKnitter.HAS_LOOPS, 1, bed(3, 3), knitter -> knitter.pickUp(3));
        rejects("transfer: NOT_IN_WORK, NO_LOOPS, BED_END", ShawlKnitter.NOT_IN_WORK, 0, bed(1, 3),
                knitter -> knitter.transfer(0, false));
        rejects("transfer: NOT_IN_WORK, NO_LOOPS, BED_END at the other end", ShawlKnitter.NOT_IN_WORK, 23, NEW,
                knitter -> knitter.transfer(23, true));
        rejects("transfer: NOT_IN_WORK, NO_LOOPS, NO_PARTNER", ShawlKnitter.NOT_IN_WORK, 3, NEW,
                knitter -> knitter.transfer(3, true));
        rejects("transfer: NO_LOOPS, BED_END", ShawlKnitter.NO_LOOPS, 2, and(bed(0, 1), drop(0)),
                knitter -> knitter.transfer(0, false));
        rejects("transfer: NO_LOOPS, NO_PARTNER", ShawlKnitter.NO_LOOPS, 2, and(bed(0, 1), drop(1)),
                knitter -> knitter.transfer(1, true));
        rejects("knit: COURSE_LIMIT, NOTHING_TO_KNIT", ShawlKnitter.COURSE_LIMIT, 30, and(shawl(30), drop(0)),
                knitter -> knitter.knit(1));
        rejects("knit: COURSE_LIMIT, NO_YARN", ShawlKnitter.COURSE_LIMIT, 30, and(shawl(30), feeder(1)),
                knitter -> knitter.knit(1));
        rejects("knit: NOTHING_TO_KNIT without yarn", ShawlKnitter.NOTHING_TO_KNIT, 0, NEW,
                knitter -> knitter.knit(1));
    }

    private static void rejectedCallChangesNothing() {
        sentence(TERMS, "A rejected call changes nothing but the latest rejection.");
        Setup rich = and(shawl(30), bed(2, 6), loops(6, 3), hold(0, 3), drop(5), rows(1, 2, 3, 4, 5, 6), yarn(2, 200),
                tension(9), ShawlKnitter::undo);
        rejects("castOn", ShawlKnitter.IN_WORK, 0, rich, knitter -> knitter.castOn(0, 1));
        rejects("hold", ShawlKnitter.ON_HOLD, 3, rich, knitter -> knitter.hold(3));
        rejects("release", ShawlKnitter.NOT_ON_HOLD, 2, rich, knitter -> knitter.release(2));
        rejects("dropStitch", ShawlKnitter.NO_LOOPS, 6, rich, knitter -> knitter.dropStitch(5));
        rejects("pickUp", ShawlKnitter.HAS_LOOPS, 3, rich, knitter -> knitter.pickUp(6));
        rejects("transfer", ShawlKnitter.BED_END, 0, rich, knitter -> knitter.transfer(0, false));
        rejects("addYarn", ShawlKnitter.YARN_LIMIT, 200, rich, knitter -> knitter.addYarn(2, 1));
        rejects("addPatternRow", ShawlKnitter.PATTERN_LIMIT, 6, rich, knitter -> knitter.addPatternRow(7));
        rejects("knit", ShawlKnitter.COURSE_LIMIT, 30, rich, knitter -> knitter.knit(3));
        rejects("castOff", ShawlKnitter.NO_LOOPS, 1, and(shawl(7), hold(0), drop(0)), ShawlKnitter::castOff);
        rejectsCommands("r0;c9-9;q;x;c0-23;k1;c0-0", 6, ShawlKnitter.IN_WORK, and(rich, tension(1), yarn(0, 0)));
    }

    private static void firstCourse() {
        sentence(TERMS, "If courses are rejected, the reason is that of the first course that cannot be knit.");
        Setup last = and(shawl(28), rows(3, 1));
        answers("knit(2) up to the limit", 2, last, knitter -> knitter.knit(2));
        rejects("knit(3) over the limit", ShawlKnitter.COURSE_LIMIT, 30, last, knitter -> knitter.knit(3));
        Setup poor = and(bed(0, 9), tension(1), yarn(0, 29));
        answers("knit(2) with yarn for 2", 20, poor, knitter -> knitter.knit(2));
        rejects("knit(3) with yarn for 2", ShawlKnitter.NO_YARN, 10, poor, knitter -> knitter.knit(3));
        rejects("knit(10): NO_YARN ahead of NOTHING_TO_KNIT", ShawlKnitter.NO_YARN, 10,
                and(poor, rows(255, 255, 255, 0)), knitter -> knitter.knit(10));
        rejects("knit(10): NOTHING_TO_KNIT ahead of NO_YARN", ShawlKnitter.NOTHING_TO_KNIT, 2,
                and(poor, rows(255, 255, 0)), knitter -> knitter.knit(10));
        Setup narrower = and(poor, rows(255, 3, 3, 3, 3, 3));
        answers("knit(5) with yarn for one wide course and four narrow ones", 26, narrower, knitter -> knitter.knit(5));
        rejects("knit(7), of which the narrow course 5 is the first without yarn", ShawlKnitter.NO_YARN, 4, narrower,
                knitter -> knitter.knit(7));
        rejects("knit(2): NOTHING_TO_KNIT ahead of COURSE_LIMIT", ShawlKnitter.NOTHING_TO_KNIT, 29,
                and(shawl(29), hold(0)), knitter -> knitter.knit(2));
        rejects("knit(2): NO_YARN ahead of COURSE_LIMIT", ShawlKnitter.NO_YARN, 1, and(shawl(29), feeder(3)),
                knitter -> knitter.knit(2));
        rejects("knit(2): COURSE_LIMIT after the last yarn", ShawlKnitter.COURSE_LIMIT, 30,
                and(shawl(29), feeder(3), yarn(3, 1)), knitter -> knitter.knit(2));
        rejects("knit(10): COURSE_LIMIT ahead of NO_YARN", ShawlKnitter.COURSE_LIMIT, 30,
                and(shawl(29), feeder(3), yarn(3, 1)), knitter -> knitter.knit(10));
    }

    // ---- changes

    private static void whatIsChange() {
        sentence(TERMS, "A change is a call of castOn, castOff, hold, release, dropStitch, pickUp, transfer, addYarn,"
                + " selectFeeder, setTension, addPatternRow, clearPattern, knit or execute that returns a value, also"
                + " if nothing is different after it.");
        Setup ready = and(bed(0, 3), hold(3), drop(2), yarn(0, 99), rows(255));
        changeIs("castOn", ready, knitter -> knitter.castOn(5, 6));
        changeIs("castOff", ready, ShawlKnitter::castOff);
        changeIs("hold", ready, knitter -> knitter.hold(0));
        changeIs("release", ready, knitter -> knitter.release(3));
        changeIs("dropStitch", ready, knitter -> knitter.dropStitch(0));
        changeIs("pickUp", ready, knitter -> knitter.pickUp(2));
        changeIs("transfer", ready, knitter -> knitter.transfer(0, true));
        changeIs("addYarn", ready, knitter -> knitter.addYarn(3, 7));
        changeIs("selectFeeder", ready, knitter -> knitter.selectFeeder(3));
        changeIs("setTension", ready, knitter -> knitter.setTension(9));
        changeIs("addPatternRow", ready, knitter -> knitter.addPatternRow(3));
        changeIs("clearPattern", ready, ShawlKnitter::clearPattern);
        changeIs("knit", ready, knitter -> knitter.knit(10));
        changeIs("execute", ready, knitter -> Trace.execute(knitter, "k1;h0;x"));
        // Nothing is different after these.
        changeIs("selectFeeder(0)", ready, knitter -> knitter.selectFeeder(0));
        changeIs("setTension(3)", ready, knitter -> knitter.setTension(3));
        changeIs("clearPattern() without rows", bed(0, 0), ShawlKnitter::clearPattern);
        changeIs("execute of f0", ready, knitter -> Trace.execute(knitter, "f0"));
        changeIs("execute of h0;r0", ready, knitter -> Trace.execute(knitter, "h0;r0"));
    }

    /** One undo brings back all that was ahead of the change, and the change ahead of it can be undone then. */
    private static void changeIs(String call, Setup setup, Asking change) {
        Setup counted = and(setup, tension(3), change::of);
        answers("undo() after " + call, Math.min(countUndos(Trace.come(setup)) + 1, 7), counted, ShawlKnitter::undo);
        answers("the data after it", Check.outcome(() -> View.ofData(Trace.come(setup))),
                and(counted, ShawlKnitter::undo), View::ofData);
        answers("undo() of " + call + " as the ninth change", 7, and(setup, eightTensions(), change::of),
                ShawlKnitter::undo);
    }

    private static Setup eightTensions() {
        return knitter -> {
            for (int change = 0; change < 8; change++) {
                knitter.setTension(3);
            }
        };
    }

    private static void whatIsNoChange() {
        sentence(TERMS, "A change is a call of castOn, castOff, hold, release, dropStitch, pickUp, transfer, addYarn,"
                + " selectFeeder, setTension, addPatternRow, clearPattern, knit or execute that returns a value");
        Asking[] calls = {ShawlKnitter::writeBed, ShawlKnitter::saveSnapshot, ShawlKnitter::nextWidth,
            ShawlKnitter::coursesPossible, ShawlKnitter::isConsistent, knitter -> knitter.appendInput('t'),
            knitter -> knitter.dropsIn(3), knitter -> knitter.stitchesIn(3), knitter -> knitter.hold(24),
            knitter -> knitter.hold(23), knitter -> knitter.knit(0), knitter -> knitter.knit(1),
            knitter -> Trace.execute(knitter, "t0"), knitter -> Trace.execute(knitter, "t5;"),
            knitter -> Trace.execute(knitter, "t5;x;x"), ShawlKnitter::undo, ShawlKnitter::longestRun,
            knitter -> knitter.courseByWidth(0), knitter -> knitter.writeCourse(0)};
        for (Asking call : calls) {
            refuses("undo()", BAD_STATE, tried(call), ShawlKnitter::undo);
        }
        for (Asking call : new Asking[] {ShawlKnitter::writeBed, ShawlKnitter::saveSnapshot,
            knitter -> knitter.hold(23), knitter -> knitter.knit(0), knitter -> Trace.execute(knitter, "t5;h0")}) {
            answers("undo() of the change ahead", 0, and(tension(5), tried(call)), ShawlKnitter::undo);
            answers("tension() after it", 3, and(tension(5), tried(call), ShawlKnitter::undo), ShawlKnitter::tension);
        }
    }

    private static void latestEight() {
        sentence(TERMS, "The latest 8 changes can be undone.");
        for (int changes : new int[] {7, 8, 9, 16, 17}) {
            Setup made = knitter -> {
                for (int change = 0; change < changes; change++) {
                    knitter.addYarn(change % 4, change + 1);
                }
            };
            int possible = Math.min(changes, 8);
            answers("undo() of " + changes + " changes", possible - 1, made, ShawlKnitter::undo);
            answers("undo() of the last one of them", 0, and(made, undos(possible - 1)), ShawlKnitter::undo);
            refuses("undo() of one more", BAD_STATE, and(made, undos(possible)), ShawlKnitter::undo);
            int left = changes - possible;
            answers("yarnAdded() then", left * (left + 1) / 2, and(made, undos(possible)), ShawlKnitter::yarnAdded);
        }
        Setup eight = knitter -> Trace.execute(knitter, "t1;t2;t3;t4;t5;t6;t7;t8;t9");
        answers("undo() of one execute() of nine commands", 0, eight, ShawlKnitter::undo);
    }

    private static void whatUndoCovers() {
        sentence(TERMS, "Undo and the snapshot cover everything but the input, the output, the latest rejection and the"
                + " latest syntax error.");
        Setup before = and(shawl(7), bed(1, 6), loops(6, 3), hold(3, 6), drop(4), rows(1, 2), yarn(2, 50), yarn(3, 9),
                feeder(2), tension(4));
        String due = Check.outcome(() -> View.ofData(Trace.come(before)));
        Setup all = knitter -> Trace.execute(knitter, "k1;u4;r3;h2;d5;p11110000;y1=7;f1;t8;x;c0-23");
        answers("the data after undo()", due, and(before, all, ShawlKnitter::undo), View::ofData);
        Setup back = and(ShawlKnitter::saveSnapshot, all, ShawlKnitter::restoreSnapshot);
        answers("the data after restoreSnapshot()", due, and(before, back), View::ofData);
        String varied = Check.outcome(() -> View.ofData(Trace.come(varied())));
        answers("30 courses after undo() of another shawl", varied,
                and(varied(), other(), undos(7)), View::ofData);
        answers("30 courses after restoreSnapshot() in another shawl", varied, and(varied(),
                ShawlKnitter::saveSnapshot, other(), ShawlKnitter::restoreSnapshot), View::ofData);
        answers("30 courses after undo() of another shawl that commands have knit", varied,
                and(varied(), knitter -> Trace.execute(knitter, "y3=99;q;x;c0-2;f3;t1;k10;k10;k10"),
                        undos(1)), View::ofData);
        Setup others = and(ShawlKnitter::writeBed, tried(ShawlKnitter::castOff), tried("x;"),
                tried(knitter -> knitter.hold(0)), knitter -> knitter.appendInput('t'));
        for (Setup cover : new Setup[] {and(tension(5), others, ShawlKnitter::undo),
            and(ShawlKnitter::saveSnapshot, others, ShawlKnitter::restoreSnapshot)}) {
            answers("the output", "........................IndexOutOfBoundsException", cover, View::ofOutput);
            answers("the latest rejection", "2 0 NoSuchElementException", cover, View::ofRejection);
            answers("the latest syntax error", 2, cover, View::ofSyntaxError);
            answers("the length of the input", 2, cover, knitter -> knitter.appendInput('9'));
            answers("tension() by the input", 9, and(cover, knitter -> Trace.execute(knitter, "9")),
                    ShawlKnitter::tension);
        }
    }

    /** 30 courses that differ in width, yarn, feeder and drops. */
    private static Setup varied() {
        return and(bed(0, 1), yarn(0, 200), yarn(1, 200), rows(1, 3, 1, 1, 3), knitter -> {
            for (int part = 0; part < 10; part++) {
                knitter.castOn(2 + part, 2 + part);
                knitter.hold(2 + part);
                knitter.selectFeeder(part % 2);
                knitter.setTension(1 + part % 3);
                knitter.knit(3);
            }
        });
    }

    /** Another 30 courses of three needles, in seven changes. */
    private static Setup other() {
        return and(ShawlKnitter::castOff, ShawlKnitter::clearPattern, tension(1), bed(0, 2), courses(30));
    }

    // ---- exceptions

    private static void exceptionChangesNothing() {
        sentence(TERMS, "A call that throws an exception changes nothing, except where this is stated.");
        Setup rich = and(shawl(3), bed(2, 6), loops(6, 3), hold(0, 3), drop(5), rows(1, 3), yarn(2, 200));
        refuses("castOn(24, 25)", NO_INDEX, rich, knitter -> knitter.castOn(24, 25));
        refuses("castOn(9, 8)", BAD_ARGUMENT, rich, knitter -> knitter.castOn(9, 8));
        refuses("addYarn(0, 100)", BAD_ARGUMENT, rich, knitter -> knitter.addYarn(0, 100));
        refuses("knit(11)", BAD_ARGUMENT, rich, knitter -> knitter.knit(11));
        refuses("stitchesIn(11)", BAD_ARGUMENT, rich, knitter -> knitter.stitchesIn(11));
        refuses("writeCourse(3)", NO_INDEX, rich, knitter -> knitter.writeCourse(3));
        refuses("courseByWidth(3)", NO_ELEMENT, rich, knitter -> knitter.courseByWidth(3));
        refuses("ageOn(5)", NO_ELEMENT, rich, knitter -> knitter.ageOn(5));
        refuses("meanWidth()", NO_NUMBER, and(rich, ShawlKnitter::castOff), ShawlKnitter::meanWidth);
        refuses("undo()", BAD_STATE, and(rich, ShawlKnitter::saveSnapshot, ShawlKnitter::restoreSnapshot),
                ShawlKnitter::undo);
        refusesCommands("r0;q;t9;f2;x;t0", rich);
        errs("t5;t", 4);
    }

    private static void firstException() {
        sentence(TERMS, "If several exceptions of a method apply, the one that is listed first is thrown.");
        refuses("castOn: no index, a wrong argument", NO_INDEX, NEW, knitter -> knitter.castOn(24, 5));
        refuses("castOn: a wrong argument and no index", NO_INDEX, NEW, knitter -> knitter.castOn(5, -1));
        refuses("castOn: no index, a rejection", NO_INDEX, FULL, knitter -> knitter.castOn(5, 24));
        refuses("castOn: a wrong argument, a rejection", BAD_ARGUMENT, FULL, knitter -> knitter.castOn(6, 5));
        refuses("addYarn: no index, a wrong argument", NO_INDEX, NEW, knitter -> knitter.addYarn(4, 0));
        refuses("addYarn: a wrong argument, a rejection", BAD_ARGUMENT, yarn(1, 200),
                knitter -> knitter.addYarn(1, 100));
        refuses("addPatternRow: a wrong argument, a rejection", BAD_ARGUMENT, rows(1, 2, 3, 4, 5, 6),
                knitter -> knitter.addPatternRow(256));
        refuses("knit: a wrong argument, a rejection", BAD_ARGUMENT, NEW, knitter -> knitter.knit(11));
        refuses("ageOn: no index, no loops", NO_INDEX, NEW, knitter -> knitter.ageOn(24));
        refuses("nextDropped: no index, no needle", NO_INDEX, NEW, knitter -> knitter.nextDropped(-1));
        refuses("appendInput: a wrong code, a full input", BAD_ARGUMENT,
                knitter -> View.type(knitter, "q;".repeat(29) + "t5"), knitter -> knitter.appendInput((char) 127));
        errs("t0;x;", 5);
        refusesCommands("t0;x", NEW);
        rejectsCommands("x;t0", 0, ShawlKnitter.NO_LOOPS, NEW);
    }
}
