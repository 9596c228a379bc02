/** The sentences of promises 57 to 62: rejections, undo and the snapshot. */
final class HistoryEdges extends Edge {
    private static final Setup REJECTED = tried(knitter -> knitter.hold(23));
    private static final Setup COMMAND_REJECTED = tried(knitter -> Trace.execute(knitter, "t5;h9"));

    private HistoryEdges() {
    }

    static void run() {
        noRejection(57, "Throws `NoSuchElementException` if no call was rejected", ShawlKnitter::rejectionReason,
                ShawlKnitter.NOT_IN_WORK);
        everyReason();
        latestReason();
        noRejection(58, "Throws `NoSuchElementException` if no call was rejected", ShawlKnitter::rejectionDetail, 23);
        latestDetail();
        causeReason();
        noChange();
        undo();
        saveSnapshot();
        noSnapshot();
        restoreSnapshot();
        snapshotIsKept();
    }

    // ---- rejections

    private static void noRejection(int section, String quote, Asking asking, int due) {
        sentence(section, quote);
        refuses("at first", NO_ELEMENT, NEW, asking);
        refuses("after changes", NO_ELEMENT, shawl(30), asking);
        refuses("after an index out of bounds", NO_ELEMENT, tried(knitter -> knitter.hold(24)), asking);
        refuses("after a wrong argument", NO_ELEMENT, tried(knitter -> knitter.knit(0)), asking);
        refuses("after a failed undo", NO_ELEMENT, tried(ShawlKnitter::undo), asking);
        refuses("after a question without an answer", NO_ELEMENT, tried(knitter -> knitter.ageOn(0)), asking);
        refuses("after a syntax error", NO_ELEMENT, tried("x;"), asking);
        refuses("after a command with a wrong argument", NO_ELEMENT, tried("t0"), asking);
        refuses("after forecasts", NO_ELEMENT, and(tried(ShawlKnitter::coursesPossible),
                tried(knitter -> knitter.dropsIn(10))), asking);
        answers("after a rejection", due, REJECTED, asking);
    }

    /** A call that is rejected, the command that stands for the same call, and what is ahead of both. */
    private record Rejected(int reason, int detail, Setup before, Asking call, String command) {
    }

    private static Rejected[] everyRejection() {
        return new Rejected[] {
            new Rejected(ShawlKnitter.IN_WORK, 2, bed(2, 3), knitter -> knitter.castOn(1, 5), "c1-5"),
            new Rejected(ShawlKnitter.NOT_IN_WORK, 9, bed(2, 3), knitter -> knitter.hold(9), "h9"),
            new Rejected(ShawlKnitter.NO_LOOPS, 2, and(bed(2, 3), drop(2, 3)), ShawlKnitter::castOff, "x"),
            new Rejected(ShawlKnitter.HAS_LOOPS, 1, bed(2, 3), knitter -> knitter.pickUp(2), "u2"),
            new Rejected(ShawlKnitter.ON_HOLD, 23, and(bed(23, 23), hold(23)), knitter -> knitter.hold(23), "h23"),
            new Rejected(ShawlKnitter.NOT_ON_HOLD, 8, bed(8, 8), knitter -> knitter.release(8), "r8"),
            new Rejected(ShawlKnitter.BED_END, 0, bed(0, 3), knitter -> knitter.transfer(0, false), "l0"),
            new Rejected(ShawlKnitter.NO_PARTNER, 4, bed(0, 3), knitter -> knitter.transfer(3, true), "g3"),
            new Rejected(ShawlKnitter.LOOP_LIMIT, 4, and(bed(0, 0), loops(0, 3), bed(1, 1)),
                    knitter -> knitter.transfer(1, false), "l1"),
            new Rejected(ShawlKnitter.NO_YARN, 12, bed(0, 3), knitter -> knitter.knit(1), "k1"),
            new Rejected(ShawlKnitter.YARN_LIMIT, 198, yarn(2, 198), knitter -> knitter.addYarn(2, 3), "y2=3"),
            new Rejected(ShawlKnitter.PATTERN_LIMIT, 6, rows(0, 0, 0, 0, 0, 0), knitter -> knitter.addPatternRow(9),
                    "p10010000"),
            new Rejected(ShawlKnitter.COURSE_LIMIT, 30, shawl(30), knitter -> knitter.knit(1), "k1"),
            new Rejected(ShawlKnitter.NOTHING_TO_KNIT, 0, NEW, knitter -> knitter.knit(1), "k1")};
    }

    private static void everyReason() {
        Rejected[] rejections = everyRejection();
        sentence(57, "Returns the reason, one of the constants.");
        for (Rejected each : rejections) {
            answers("rejectionReason()", each.reason, and(each.before, tried(each.call)),
                    ShawlKnitter::rejectionReason);
            answers("rejectionReason() of '" + each.command + "'", ShawlKnitter.COMMAND_REJECTED,
                    and(each.before, tried(each.command)), ShawlKnitter::rejectionReason);
        }
        sentence(58, "Returns the detail.");
        for (Rejected each : rejections) {
            answers("rejectionDetail() of the reason " + each.reason, each.detail, and(each.before, tried(each.call)),
                    ShawlKnitter::rejectionDetail);
            answers("rejectionDetail() of 't5;t6;" + each.command + "'", 2,
                    and(each.before, tried("t5;t6;" + each.command)), ShawlKnitter::rejectionDetail);
        }
        sentence(59, "Returns the reason, one of the constants.");
        for (Rejected each : rejections) {
            answers("causeReason() of '" + each.command + "'", each.reason, and(each.before, tried(each.command)),
                    ShawlKnitter::causeReason);
            answers("causeReason() of a call", "NoSuchElementException", and(each.before, tried(each.command),
                    tried(each.call)), ShawlKnitter::causeReason);
        }
    }

    private static void latestReason() {
        sentence(57, "Returns the reason of the latest rejection.");
        answers("after two", ShawlKnitter.NO_LOOPS, and(REJECTED, tried(ShawlKnitter::castOff)),
                ShawlKnitter::rejectionReason);
        answers("after a rejected command", ShawlKnitter.COMMAND_REJECTED, and(REJECTED, COMMAND_REJECTED),
                ShawlKnitter::rejectionReason);
        answers("after both the other way round", ShawlKnitter.NOT_IN_WORK, and(COMMAND_REJECTED, REJECTED),
                ShawlKnitter::rejectionReason);
        for (Setup later : afterwards()) {
            answers("after what is no rejection", ShawlKnitter.NOT_IN_WORK, and(REJECTED, later),
                    ShawlKnitter::rejectionReason);
        }
    }

    /** Calls that are not rejected. */
    private static Setup[] afterwards() {
        return new Setup[] {bed(0, 3), tried("t0"), tried("t"), tried("t5"), and(bed(0, 0), ShawlKnitter::undo),
            and(ShawlKnitter::saveSnapshot, ShawlKnitter::restoreSnapshot), tried(ShawlKnitter::undo),
            tried(ShawlKnitter::restoreSnapshot), tried(knitter -> knitter.hold(-1)), ShawlKnitter::writeBed,
            tried(ShawlKnitter::coursesPossible), tried(knitter -> knitter.appendInput((char) 31))};
    }

    private static void latestDetail() {
        sentence(58, "Returns the detail of the latest rejection.");
        answers("after two", 0, and(REJECTED, tried(ShawlKnitter::castOff)), ShawlKnitter::rejectionDetail);
        answers("after a rejected command", 1, and(REJECTED, COMMAND_REJECTED), ShawlKnitter::rejectionDetail);
        answers("after both the other way round", 23, and(COMMAND_REJECTED, REJECTED), ShawlKnitter::rejectionDetail);
        for (Setup later : afterwards()) {
            answers("after what is no rejection", 23, and(REJECTED, later), ShawlKnitter::rejectionDetail);
        }
    }

    private static void causeReason() {
        sentence(59, "Throws `NoSuchElementException` if no call was rejected, or the latest rejection has another"
                + " reason than COMMAND_REJECTED");
        refuses("at first", NO_ELEMENT, NEW, ShawlKnitter::causeReason);
        refuses("after a syntax error", NO_ELEMENT, tried("x;"), ShawlKnitter::causeReason);
        refuses("after a command with a wrong argument", NO_ELEMENT, tried("t0"), ShawlKnitter::causeReason);
        refuses("after another rejection", NO_ELEMENT, REJECTED, ShawlKnitter::causeReason);
        refuses("after a command and another rejection", NO_ELEMENT, and(COMMAND_REJECTED, REJECTED),
                ShawlKnitter::causeReason);
        answers("after another rejection and a command", ShawlKnitter.NOT_IN_WORK, and(REJECTED, COMMAND_REJECTED),
                ShawlKnitter::causeReason);
        sentence(59, "Returns the reason of the command that caused the latest rejection.");
        answers("after two", ShawlKnitter.NO_LOOPS, and(COMMAND_REJECTED, tried("x")), ShawlKnitter::causeReason);
        for (Setup later : afterwards()) {
            answers("after what is no rejection", ShawlKnitter.NOT_IN_WORK, and(COMMAND_REJECTED, later),
                    ShawlKnitter::causeReason);
        }
    }

    // ---- undo

    private static void noChange() {
        sentence(60, "Throws `IllegalStateException` if there is none");
        answers("undo() of the only change", 0, tension(5), ShawlKnitter::undo);
        refuses("undo() at first", BAD_STATE, NEW, ShawlKnitter::undo);
        refuses("undo() of a change that has been undone", BAD_STATE, and(tension(5), ShawlKnitter::undo),
                ShawlKnitter::undo);
        refuses("undo() of a rejected call", BAD_STATE, REJECTED, ShawlKnitter::undo);
        refuses("undo() after a syntax error", BAD_STATE, tried("x;"), ShawlKnitter::undo);
        refuses("undo() after restoreSnapshot()", BAD_STATE,
                and(tension(5), ShawlKnitter::saveSnapshot, ShawlKnitter::restoreSnapshot), ShawlKnitter::undo);
        answers("undo() after saveSnapshot()", 0, and(tension(5), ShawlKnitter::saveSnapshot), ShawlKnitter::undo);
        answers("undo() of a change after restoreSnapshot()", 0, and(tension(5), ShawlKnitter::saveSnapshot,
                ShawlKnitter::restoreSnapshot, tension(6)), ShawlKnitter::undo);
    }

    private static void undo() {
        sentence(60, "Returns the number of changes that can still be undone.");
        for (int changes = 1; changes <= 12; changes++) {
            int count = changes;
            answers("undo() of " + count + " changes", Math.min(count, 8) - 1, changes(count), ShawlKnitter::undo);
            answers("the undos of " + count + " changes", Math.min(count, 8), changes(count), Edge::countUndos);
        }
        sentence(60, "Undoes the latest change that has not been undone.");
        for (int undone = 0; undone <= 8; undone++) {
            int times = undone;
            answers("yarnIn(1) after " + times + " undos", (10 - times) * (11 - times) / 2,
                    and(changes(10), undos(times)), knitter -> knitter.yarnIn(1));
        }
        answers("yarnIn(1) after a change in place of two", 1 + 2 + 3 + 99, and(changes(5), undos(2),
                knitter -> knitter.addYarn(1, 99)), knitter -> knitter.yarnIn(1));
        answers("yarnIn(1) after its undo", 1 + 2 + 3, and(changes(5), undos(2),
                knitter -> knitter.addYarn(1, 99), undos(1)), knitter -> knitter.yarnIn(1));
        answers("undo() after a change in place of two", 3, and(changes(5), undos(2),
                knitter -> knitter.addYarn(1, 99)), ShawlKnitter::undo);
        answers("undo() after a change in place of eight", 0, and(changes(20), undos(8),
                knitter -> knitter.addYarn(2, 99)), ShawlKnitter::undo);
    }

    /** As many changes, of which each adds one unit more than the one ahead; beyond 19 only the tension changes. */
    private static Setup changes(int count) {
        return knitter -> {
            for (int units = 1; units <= count; units++) {
                if (units < 20) {
                    knitter.addYarn(1, units);
                } else {
                    knitter.setTension(9);
                }
            }
        };
    }

    // ---- the snapshot

    private static void saveSnapshot() {
        sentence(61, "Returns the number of courses.");
        for (int courses : new int[] {0, 1, 29, 30}) {
            answers("saveSnapshot()", courses, shawl(courses), ShawlKnitter::saveSnapshot);
        }
        answers("saveSnapshot() at first", 0, NEW, ShawlKnitter::saveSnapshot);
        sentence(61, "Saves a snapshot of the data, in place of an earlier snapshot.");
        Setup twice = and(shawl(30), ShawlKnitter::saveSnapshot, ShawlKnitter::undo, ShawlKnitter::saveSnapshot);
        answers("restoreSnapshot() of the second", 20, and(twice, ShawlKnitter::castOff),
                ShawlKnitter::restoreSnapshot);
        answers("the data after it", Check.outcome(() -> View.ofData(Trace.come(shawl(20)))),
                and(twice, ShawlKnitter::castOff, ShawlKnitter::restoreSnapshot), View::ofData);
    }

    private static void noSnapshot() {
        sentence(62, "Throws `IllegalStateException` if there is no snapshot");
        answers("restoreSnapshot() of a new machine", 0, ShawlKnitter::saveSnapshot, ShawlKnitter::restoreSnapshot);
        for (Setup setup : new Setup[] {NEW, shawl(30), and(tension(5), ShawlKnitter::undo), REJECTED}) {
            refusesUnprepared("restoreSnapshot()", BAD_STATE, setup, ShawlKnitter::restoreSnapshot);
        }
    }

    private static void restoreSnapshot() {
        sentence(62, "Returns the number of courses.");
        for (int courses : new int[] {0, 1, 30}) {
            answers("restoreSnapshot()", courses, and(shawl(courses), ShawlKnitter::saveSnapshot,
                    ShawlKnitter::castOff), ShawlKnitter::restoreSnapshot);
        }
        answers("restoreSnapshot() of no courses, after some", 0, and(shawl(0), ShawlKnitter::saveSnapshot, courses(3)),
                ShawlKnitter::restoreSnapshot);
        sentence(62, "No change can be undone after the call.");
        for (int changes : new int[] {1, 8, 9}) {
            refuses("undo() after " + changes + " changes", BAD_STATE, and(ShawlKnitter::saveSnapshot,
                    changes(changes), ShawlKnitter::restoreSnapshot), ShawlKnitter::undo);
        }
        answers("undo() after a change", 0, and(ShawlKnitter::saveSnapshot, changes(9), ShawlKnitter::restoreSnapshot,
                tension(5)), ShawlKnitter::undo);
    }

    private static void snapshotIsKept() {
        sentence(62, "Restores the snapshot, which is kept.");
        Setup saved = and(shawl(30), ShawlKnitter::saveSnapshot);
        String due = Check.outcome(() -> View.ofData(Trace.come(saved)));
        Setup wiped = and(saved, ShawlKnitter::castOff, bed(5, 9), tension(9), feeder(3), yarn(3, 200), rows(1, 2, 3));
        answers("the data", due, and(wiped, ShawlKnitter::restoreSnapshot), View::ofData);
        Setup again = and(wiped, ShawlKnitter::restoreSnapshot, ShawlKnitter::castOff, bed(5, 9), tension(9), feeder(3),
                yarn(3, 200), courses(3), rows(1, 2, 3));
        answers("the data after a second time", due, and(again, ShawlKnitter::restoreSnapshot), View::ofData);
        answers("the data after a third time", due,
                and(again, ShawlKnitter::restoreSnapshot, ShawlKnitter::castOff, ShawlKnitter::undo,
                        ShawlKnitter::restoreSnapshot), View::ofData);
    }
}
