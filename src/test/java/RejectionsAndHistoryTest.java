import java.util.NoSuchElementException;
import java.util.function.Consumer;

/** Promises 57 to 62: rejections, undo and the snapshot. */
public final class RejectionsAndHistoryTest {
    private static final Class<IllegalArgumentException> BAD_ARGUMENT = IllegalArgumentException.class;
    private static final Class<IllegalStateException> BAD_STATE = IllegalStateException.class;
    private static final Class<NoSuchElementException> NO_ELEMENT = NoSuchElementException.class;
    private static final Class<UnsupportedOperationException> REJECTED = UnsupportedOperationException.class;

    public static void main(String[] arguments) {
        rejectionReason();
        rejectionDetail();
        causeReason();
        undoOfEveryChange();
        undoOfTheLatestEight();
        undoAndRejections();
        saveSnapshot();
        restoreSnapshot();
        Check.finish();
    }

    private static ShawlKnitter ready() {
        ShawlKnitter knitter = new ShawlKnitter();
        knitter.castOn(0, 5);
        knitter.addYarn(0, 99);
        return knitter;
    }

    private static void rejectionReason() {
        Check.promise(57, "rejectionReason");
        ShawlKnitter knitter = ready();
        Check.refuses("rejectionReason() at first", NO_ELEMENT, knitter::rejectionReason);
        Check.refuses("hold(9)", REJECTED, () -> knitter.hold(9));
        Check.answers("rejectionReason()", ShawlKnitter.NOT_IN_WORK, knitter::rejectionReason);
        Check.refuses("pickUp(0)", REJECTED, () -> knitter.pickUp(0));
        Check.answers("rejectionReason() of the latest", ShawlKnitter.HAS_LOOPS, knitter::rejectionReason);
        knitter.hold(0);
        Check.answers("rejectionReason() after a success", ShawlKnitter.HAS_LOOPS, knitter::rejectionReason);
        Check.refuses("knit(0)", BAD_ARGUMENT, () -> knitter.knit(0));
        View.type(knitter, "t0");
        Check.refuses("execute()", BAD_STATE, knitter::execute);
        Check.answers("rejectionReason() after exceptions", ShawlKnitter.HAS_LOOPS, knitter::rejectionReason);
        knitter.coursesPossible();
        Check.answers("rejectionReason() after a forecast", ShawlKnitter.HAS_LOOPS, knitter::rejectionReason);
    }

    private static void rejectionDetail() {
        Check.promise(58, "rejectionDetail");
        ShawlKnitter knitter = ready();
        Check.refuses("rejectionDetail() at first", NO_ELEMENT, knitter::rejectionDetail);
        Check.refuses("release(0)", REJECTED, () -> knitter.release(0));
        Check.answers("rejectionDetail() of 0", 0, knitter::rejectionDetail);
        Check.refuses("hold(9)", REJECTED, () -> knitter.hold(9));
        Check.answers("rejectionDetail()", 9, knitter::rejectionDetail);
        knitter.hold(0);
        knitter.undo();
        knitter.saveSnapshot();
        knitter.restoreSnapshot();
        Check.answers("rejectionDetail() after undo and a snapshot", 9, knitter::rejectionDetail);
    }

    private static void causeReason() {
        Check.promise(59, "causeReason");
        ShawlKnitter knitter = ready();
        Check.refuses("causeReason() at first", NO_ELEMENT, knitter::causeReason);
        View.type(knitter, "h0;h0");
        Check.refuses("execute()", REJECTED, knitter::execute);
        Check.answers("causeReason()", ShawlKnitter.ON_HOLD, knitter::causeReason);
        Check.answers("rejectionReason()", ShawlKnitter.COMMAND_REJECTED, knitter::rejectionReason);
        Check.answers("rejectionDetail()", 1, knitter::rejectionDetail);
        knitter.hold(0);
        Check.answers("causeReason() after a success", ShawlKnitter.ON_HOLD, knitter::causeReason);
        Check.refuses("hold(9)", REJECTED, () -> knitter.hold(9));
        Check.refuses("causeReason() of another reason", NO_ELEMENT, knitter::causeReason);
        Check.answers("rejectionReason()", ShawlKnitter.NOT_IN_WORK, knitter::rejectionReason);
    }

    private static void undoOfEveryChange() {
        Check.promise(60, "undo");
        undone("castOn", knitter -> knitter.castOn(7, 8));
        undone("castOff", ShawlKnitter::castOff);
        undone("hold", knitter -> knitter.hold(4));
        undone("release", knitter -> knitter.release(5));
        undone("dropStitch", knitter -> knitter.dropStitch(3));
        undone("pickUp", knitter -> knitter.pickUp(2));
        undone("transfer", knitter -> knitter.transfer(5, false));
        undone("addYarn", knitter -> knitter.addYarn(3, 7));
        undone("selectFeeder", knitter -> knitter.selectFeeder(1));
        undone("selectFeeder, as before", knitter -> knitter.selectFeeder(0));
        undone("setTension", knitter -> knitter.setTension(8));
        undone("addPatternRow", knitter -> knitter.addPatternRow(3));
        undone("clearPattern", ShawlKnitter::clearPattern);
        undone("knit", knitter -> knitter.knit(6));
        undone("execute", knitter -> {
            View.type(knitter, "c9-9;k6;x");
            knitter.execute();
        });
    }

    /** The change is undone by one call, and the five changes ahead of it are left then. */
    private static void undone(String name, Consumer<ShawlKnitter> change) {
        ShawlKnitter knitter = ready();
        knitter.dropStitch(2);
        knitter.hold(5);
        knitter.addPatternRow(0xFE);
        String before = View.ofData(knitter);
        change.accept(knitter);
        Check.answers("undo() of " + name, 5, knitter::undo);
        Check.same("the data after undo of " + name, before, View.ofData(knitter));
    }

    private static void undoOfTheLatestEight() {
        ShawlKnitter knitter = new ShawlKnitter();
        Check.refuses("undo() at first", BAD_STATE, knitter::undo);
        for (int units = 1; units <= 11; units++) {
            knitter.addYarn(1, units);
        }
        int yarn = 66;
        for (int units = 11; units > 3; units--) {
            Check.answers("undo()", units - 4, knitter::undo);
            yarn -= units;
            Check.same("yarnIn(1)", yarn, knitter.yarnIn(1));
        }
        Check.refuses("undo() of a ninth", BAD_STATE, knitter::undo);
        Check.answers("yarnIn(1)", 6, () -> knitter.yarnIn(1));
        knitter.addYarn(1, 50);
        knitter.addYarn(1, 60);
        Check.answers("undo()", 1, knitter::undo);
        knitter.addYarn(1, 70);
        Check.answers("undo() of a change after undo", 1, knitter::undo);
        Check.answers("yarnIn(1)", 56, () -> knitter.yarnIn(1));
        Check.answers("undo()", 0, knitter::undo);
        Check.answers("yarnIn(1)", 6, () -> knitter.yarnIn(1));
    }

    private static void undoAndRejections() {
        ShawlKnitter knitter = ready();
        Check.refuses("hold(9)", REJECTED, () -> knitter.hold(9));
        Check.refuses("setTension(0)", BAD_ARGUMENT, () -> knitter.setTension(0));
        knitter.writeBed();
        knitter.saveSnapshot();
        Check.answers("undo()", 1, knitter::undo);
        Check.answers("yarnIn(0)", 0, () -> knitter.yarnIn(0));
        Check.answers("rejectionReason()", ShawlKnitter.NOT_IN_WORK, knitter::rejectionReason);
        Check.answers("outputAt(0)", '1', () -> knitter.outputAt(0));
    }

    private static void saveSnapshot() {
        Check.promise(61, "saveSnapshot");
        ShawlKnitter knitter = ready();
        Check.answers("saveSnapshot()", 0, knitter::saveSnapshot);
        knitter.knit(2);
        Check.answers("saveSnapshot() in place of the earlier one", 2, knitter::saveSnapshot);
        Check.answers("undo(), which a snapshot does not hinder", 2, knitter::undo);
        knitter.castOff();
        Check.answers("restoreSnapshot()", 2, knitter::restoreSnapshot);
        Check.answers("loopCount()", 6, knitter::loopCount);
    }

    private static void restoreSnapshot() {
        Check.promise(62, "restoreSnapshot");
        ShawlKnitter knitter = ready();
        Check.refusesIdly("restoreSnapshot() without one", BAD_STATE, knitter, knitter::restoreSnapshot);
        Check.answers("undo() after it", 1, knitter::undo);
        knitter.addYarn(0, 99);
        knitter.addPatternRow(0xBF);
        knitter.hold(2);
        knitter.selectFeeder(0);
        knitter.setTension(2);
        knitter.knit(6);
        String saved = View.ofData(knitter);
        String savedInBrief = View.inBrief(knitter);
        Check.answers("saveSnapshot()", 6, knitter::saveSnapshot);
        Check.refuses("hold(9)", REJECTED, () -> knitter.hold(9));
        View.type(knitter, "q;f3;t7;y3=50;u2;r2;x;c0-23");
        knitter.execute();
        Check.answers("restoreSnapshot()", 6, knitter::restoreSnapshot);
        Check.same("the data after it", savedInBrief, View.inBrief(knitter));
        Check.refuses("undo() after it", BAD_STATE, knitter::undo);
        Check.answers("rejectionDetail()", 9, knitter::rejectionDetail);
        knitter.castOff();
        Check.answers("undo()", 0, knitter::undo);
        knitter.castOff();
        Check.answers("restoreSnapshot(), which is kept", 6, knitter::restoreSnapshot);
        knitter.knit(1);
        knitter.appendInput('t');
        Check.answers("restoreSnapshot() after a course", 6, knitter::restoreSnapshot);
        Check.answers("appendInput after it", 2, () -> knitter.appendInput('6'));
        Check.same("the data after all", saved, View.ofData(knitter));
    }
}
