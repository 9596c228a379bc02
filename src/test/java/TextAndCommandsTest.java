import java.util.NoSuchElementException;

/** Promises 51 to 56: text output and commands. */
public final class TextAndCommandsTest {
    private static final Class<IndexOutOfBoundsException> NO_INDEX = IndexOutOfBoundsException.class;
    private static final Class<IllegalArgumentException> BAD_ARGUMENT = IllegalArgumentException.class;
    private static final Class<IllegalStateException> BAD_STATE = IllegalStateException.class;
    private static final Class<UnsupportedOperationException> REJECTED = UnsupportedOperationException.class;

    public static void main(String[] arguments) {
        writeBed();
        writeCourse();
        outputAt();
        appendInput();
        everyCommand();
        numbersOfCommands();
        executeAllOrNone();
        argumentsOfCommands();
        rejectedCommands();
        inputAfterExecute();
        syntaxErrors();
        syntaxErrorsAreKept();
        Check.finish();
    }

    private static ShawlKnitter typed(String commands) {
        ShawlKnitter knitter = new ShawlKnitter();
        View.type(knitter, commands);
        return knitter;
    }

    private static ShawlKnitter done(String... inputs) {
        ShawlKnitter knitter = new ShawlKnitter();
        for (String commands : inputs) {
            View.type(knitter, commands);
            knitter.execute();
        }
        return knitter;
    }

    private static void writeBed() {
        Check.promise(51, "writeBed");
        ShawlKnitter knitter = new ShawlKnitter();
        Check.answers("writeBed() at first", 24, knitter::writeBed);
        Check.same("the output", "........................", View.output(knitter, 24));
        knitter.castOn(0, 10);
        knitter.castOn(23, 23);
        knitter.transfer(1, false);
        knitter.transfer(4, true);
        knitter.transfer(6, false);
        knitter.dropStitch(7);
        knitter.transfer(9, true);
        knitter.hold(23);
        Check.answers("writeBed()", 24, knitter::writeBed);
        Check.same("the output", "2.11.3.o1.2............a", View.output(knitter, 24));
        knitter.hold(0);
        knitter.hold(5);
        knitter.hold(7);
        Check.answers("writeBed() with holds", 24, knitter::writeBed);
        Check.same("the output", "b.11.c.h1.2............a", View.output(knitter, 24));
    }

    private static void writeCourse() {
        Check.promise(52, "writeCourse");
        ShawlKnitter knitter = done("c0-13;y0=99;y0=99;h12;d13", "t1;k3;t3;k1");
        Check.answers("writeCourse(3)", 9, () -> knitter.writeCourse(3));
        Check.same("the output", "3:12f0y36", View.output(knitter, 9));
        Check.refuses("outputAt(9)", NO_INDEX, () -> knitter.outputAt(9));
        ShawlKnitter dropping = done("c0-15;y3=99;f3;t1;g0;h1;k6");
        Check.answers("writeCourse(5)", 11, () -> dropping.writeCourse(5));
        Check.same("the output", "5:14f3y14!2", View.output(dropping, 11));
        ShawlKnitter dropOne = done("c0-1;y0=99;h1;k10");
        Check.answers("writeCourse(5) with one loop that drops", 9, () -> dropOne.writeCourse(5));
        Check.same("the output", "5:1f0y3!1", View.output(dropOne, 9));
        Check.refuses("writeCourse(99)", NO_INDEX, () -> dropping.writeCourse(99));
        Check.refuses("writeCourse(-1)", NO_INDEX, () -> dropping.writeCourse(-1));
        Check.same("the output after a refusal", "5:14f3y14!2", View.output(dropping, 11));
    }

    private static void outputAt() {
        Check.promise(53, "outputAt");
        ShawlKnitter knitter = done("c3-3;y0=9;k1");
        Check.refuses("outputAt(0) at first", NO_INDEX, () -> knitter.outputAt(0));
        knitter.writeBed();
        Check.answers("outputAt(0)", '.', () -> knitter.outputAt(0));
        Check.answers("outputAt(3)", '1', () -> knitter.outputAt(3));
        Check.answers("outputAt(23)", '.', () -> knitter.outputAt(23));
        Check.refuses("outputAt(24)", NO_INDEX, () -> knitter.outputAt(24));
        Check.refuses("outputAt(-1)", NO_INDEX, () -> knitter.outputAt(-1));
        knitter.writeCourse(0);
        Check.answers("outputAt(1)", ':', () -> knitter.outputAt(1));
        Check.refuses("outputAt(7), of the earlier output", NO_INDEX, () -> knitter.outputAt(7));
        knitter.undo();
        Check.answers("outputAt(1) after undo", ':', () -> knitter.outputAt(1));
        knitter.saveSnapshot();
        knitter.restoreSnapshot();
        Check.answers("outputAt(6) after a snapshot", '3', () -> knitter.outputAt(6));
    }

    private static void appendInput() {
        Check.promise(54, "appendInput");
        ShawlKnitter knitter = new ShawlKnitter();
        Check.answers("appendInput(' ')", 1, () -> knitter.appendInput(' '));
        Check.answers("appendInput('~')", 2, () -> knitter.appendInput('~'));
        Check.refuses("appendInput of the code 31", BAD_ARGUMENT, () -> knitter.appendInput((char) 31));
        Check.refuses("appendInput of the code 127", BAD_ARGUMENT, () -> knitter.appendInput((char) 127));
        Check.refuses("appendInput of the code 0", BAD_ARGUMENT, () -> knitter.appendInput((char) 0));
        Check.refuses("appendInput of the code 65535", BAD_ARGUMENT, () -> knitter.appendInput((char) 65535));
        for (int length = 3; length <= 60; length++) {
            Check.answers("appendInput('x')", length, () -> knitter.appendInput('x'));
        }
        Check.refuses("appendInput('x') to 60", BAD_STATE, () -> knitter.appendInput('x'));
        Check.refuses("appendInput of the code 31 to 60", BAD_ARGUMENT, () -> knitter.appendInput((char) 31));
        knitter.castOn(0, 1);
        knitter.undo();
        Check.refuses("appendInput('x') to 60 after undo", BAD_STATE, () -> knitter.appendInput('x'));
        Check.refuses("execute()", BAD_ARGUMENT, knitter::execute);
        Check.answers("appendInput('x') to the emptied input", 1, () -> knitter.appendInput('x'));
    }

    private static void everyCommand() {
        Check.promise(55, "execute");
        ShawlKnitter knitter = done("c4-9");
        Check.same("c", "bed . . . . 1/0 1/0 1/0 1/0 1/0 1/0 ", View.ofData(knitter).substring(0, 36));
        ShawlKnitter all = done("y3=99;f3;t2;p10100000;p00000001", "c0-23;h8;h9;r8;d1;d2;u2;k2");
        Check.same("many commands", "bed 1/1 0 1/1 1/2 1/2 1/2 1/2 1/0 1/1 h1/2 1/1 1/2 1/2 1/2 1/2 1/0 1/1 1/2 1/1 1/2"
                + " 1/2 1/2 1/2 1/0 yarn 0 0 0 80 feeder 3 tension 2 pattern 10100000 00000001"
                + " courses 6f3y12!0 3f3y6!0 totals 0 99 19 2", View.ofData(all));
        View.type(all, "l4;g4;q");
        Check.refuses("l4;g4, of which the second has no needle", REJECTED, all::execute);
        View.type(all, "l4;g5;q;t9;f0");
        Check.answers("execute()", 5, all::execute);
        Check.answers("loopsOn(3)", 2, () -> all.loopsOn(3));
        Check.answers("loopsOn(6)", 2, () -> all.loopsOn(6));
        Check.answers("patternRows()", 0, all::patternRows);
        Check.answers("tension()", 9, all::tension);
        Check.answers("activeFeeder()", 0, all::activeFeeder);
        View.type(all, "x");
        Check.answers("execute()", 1, all::execute);
        Check.answers("needlesInWork()", 0, all::needlesInWork);
        Check.answers("finishedShawls()", 1, all::finishedShawls);
    }

    private static void numbersOfCommands() {
        ShawlKnitter knitter = done("c04-23;y0=09;h5;h06;h23");
        Check.answers("needlesInWork()", 20, knitter::needlesInWork);
        Check.answers("needlesOnHold()", 3, knitter::needlesOnHold);
        Check.answers("yarnIn(0)", 9, () -> knitter.yarnIn(0));
        View.type(knitter, "p00000000;p00000001");
        knitter.execute();
        Check.answers("isKnit(0, 2), after a command with the number 4 = 1 << 2", false, () -> knitter.isKnit(0, 2));
        Check.answers("isKnit(1, 0)", false, () -> knitter.isKnit(1, 0));
        Check.answers("isKnit(1, 7)", true, () -> knitter.isKnit(1, 7));
        ShawlKnitter longest = typed("x;x;x;x;x;x;x;x;x;x;x;x;x;x;x;x;x;x;x;x;x;x;x;x;x;x;x;x;x;x");
        longest.castOn(0, 0);
        Check.refuses("execute() of 30 commands", REJECTED, longest::execute);
        Check.answers("rejectionDetail()", 1, longest::rejectionDetail);
        View.type(longest, "q;q;q;q;q;q;q;q;q;q;q;q;q;q;q;q;q;q;q;q;q;q;q;q;q;q;q;q;q;k1");
        longest.addYarn(0, 9);
        Check.answers("execute() of 60 characters", 30, longest::execute);
        Check.answers("courseCount()", 1, longest::courseCount);
    }

    private static void executeAllOrNone() {
        ShawlKnitter knitter = done("c0-5;y0=20");
        knitter.castOff();
        Check.refuses("castOff()", REJECTED, knitter::castOff);
        String before = View.ofData(knitter);
        View.type(knitter, "c0-5;h3;p00000000;t9;f2;k1");
        Check.refuses("execute()", REJECTED, knitter::execute);
        Check.same("the data after it", before, View.ofData(knitter));
        Check.answers("rejectionReason()", 15, knitter::rejectionReason);
        Check.answers("rejectionDetail()", 5, knitter::rejectionDetail);
        Check.answers("causeReason()", 14, knitter::causeReason);
        Check.answers("undo()", 1, knitter::undo);
        Check.answers("undo()", 0, knitter::undo);
        View.type(knitter, "c0-5;h3;h4");
        Check.answers("execute()", 3, knitter::execute);
        Check.answers("undo() of all commands", 0, knitter::undo);
        Check.answers("needlesInWork()", 0, knitter::needlesInWork);
        executeKeepsHistory();
    }

    private static void executeKeepsHistory() {
        ShawlKnitter knitter = new ShawlKnitter();
        for (int tension = 1; tension <= 9; tension++) {
            knitter.setTension(tension);
        }
        View.type(knitter, "t1;x");
        Check.refuses("t1;x", REJECTED, knitter::execute);
        View.type(knitter, "t1;t0");
        Check.refuses("t1;t0", BAD_STATE, knitter::execute);
        for (int left = 7; left >= 0; left--) {
            Check.answers("undo()", left, knitter::undo);
        }
        Check.answers("tension() ahead of the 8 changes", 1, knitter::tension);
    }

    private static void argumentsOfCommands() {
        String[] wrong = {"c0-24", "c24-24", "c24-0", "c5-4", "h24", "r24", "d99", "u24", "l24", "g24", "y4=5", "y0=0",
            "y0=00", "y9=99", "f4", "f9", "t0", "k0", "k11", "k00", "k99"};
        for (String commands : wrong) {
            ShawlKnitter knitter = typed(commands);
            Check.refusesIdly("execute() of " + commands, BAD_STATE, knitter, knitter::execute);
            Check.refuses("undo() after " + commands, BAD_STATE, knitter::undo);
        }
        ShawlKnitter first = typed("x;t0");
        Check.refuses("execute() of x;t0, which is rejected first", REJECTED, first::execute);
        ShawlKnitter second = typed("t0;x");
        Check.refuses("execute() of t0;x", BAD_STATE, second::execute);
        ShawlKnitter syntax = typed("t0;x;");
        Check.refuses("execute() of t0;x;", BAD_ARGUMENT, syntax::execute);
        Check.refuses("rejectionReason() after both", NoSuchElementException.class, second::rejectionReason);
        ShawlKnitter both = done("c3-5");
        View.type(both, "c5-3");
        Check.refuses("execute() of c5-3, which is in work, too", BAD_STATE, both::execute);
    }

    private static void rejectedCommands() {
        rejected("c3-5;c0-9", 1, ShawlKnitter.IN_WORK);
        rejected("x", 0, ShawlKnitter.NO_LOOPS);
        rejected("h0", 0, ShawlKnitter.NOT_IN_WORK);
        rejected("c0-0;h0;h0", 2, ShawlKnitter.ON_HOLD);
        rejected("r5", 0, ShawlKnitter.NOT_ON_HOLD);
        rejected("c0-0;d0;d0", 2, ShawlKnitter.NO_LOOPS);
        rejected("d0", 0, ShawlKnitter.NOT_IN_WORK);
        rejected("c0-0;u0", 1, ShawlKnitter.HAS_LOOPS);
        rejected("c0-0;d0;u0", 2, ShawlKnitter.NO_YARN);
        rejected("l0", 0, ShawlKnitter.NOT_IN_WORK);
        rejected("c0-0;l0", 1, ShawlKnitter.BED_END);
        rejected("c23-23;g23", 1, ShawlKnitter.BED_END);
        rejected("c5-5;g5", 1, ShawlKnitter.NO_PARTNER);
        rejected("c0-3;g0;g1;g2", 3, ShawlKnitter.LOOP_LIMIT);
        rejected("c0-4;g0;g1;l4;l3", 4, ShawlKnitter.LOOP_LIMIT);
        rejected("y2=99;y2=99;y2=3", 2, ShawlKnitter.YARN_LIMIT);
        rejected("p00000000;p00000000;p00000000;q;k1", 4, ShawlKnitter.NOTHING_TO_KNIT);
        rejected("c0-0;y0=99;k10;k10;k10;k1", 5, ShawlKnitter.COURSE_LIMIT);
        ShawlKnitter knitter = done("p00000000;p00000000;p00000000", "p00000000;p00000000;p00000000");
        View.type(knitter, "p11111111");
        Check.refuses("a row 7", REJECTED, knitter::execute);
        Check.answers("causeReason()", ShawlKnitter.PATTERN_LIMIT, knitter::causeReason);
    }

    private static void rejected(String commands, int detail, int cause) {
        ShawlKnitter knitter = typed(commands);
        Check.rejects("execute() of " + commands, ShawlKnitter.COMMAND_REJECTED, detail, knitter, knitter::execute);
        Check.answers("causeReason() after " + commands, cause, knitter::causeReason);
    }

    private static void inputAfterExecute() {
        ShawlKnitter knitter = typed("t4");
        knitter.execute();
        Check.answers("appendInput after a success", 1, () -> knitter.appendInput('x'));
        Check.refuses("execute()", REJECTED, knitter::execute);
        Check.answers("appendInput after a rejection", 1, () -> knitter.appendInput('?'));
        Check.refuses("execute()", BAD_ARGUMENT, knitter::execute);
        Check.answers("appendInput after a syntax error", 1, () -> knitter.appendInput('t'));
        knitter.appendInput('0');
        Check.refuses("execute()", BAD_STATE, knitter::execute);
        Check.answers("appendInput after a wrong argument", 1, () -> knitter.appendInput('t'));
        Check.answers("undo()", 0, knitter::undo);
        Check.answers("appendInput after undo", 2, () -> knitter.appendInput('5'));
        Check.answers("execute()", 1, knitter::execute);
        Check.answers("tension()", 5, knitter::tension);
    }

    private static void syntaxErrors() {
        Check.promise(56, "syntaxErrorOffset");
        error("", 0);
        error("s", 0);
        error("C0-1", 0);
        error(" x", 0);
        error(";", 0);
        error("0", 0);
        error("x;", 2);
        error("x;;x", 2);
        error("x ;x", 1);
        error("x,x", 1);
        error("x1", 1);
        error("q1", 1);
        error("c", 1);
        error("c-", 1);
        error("c1", 2);
        error("c12", 3);
        error("c123", 3);
        error("c1=2", 2);
        error("c1-", 3);
        error("c1-x", 3);
        error("c1-2-", 4);
        error("c1-234", 5);
        error("c1;x", 2);
        for (String letter : new String[] {"h", "r", "d", "u", "l", "g", "k"}) {
            error(letter, 1);
            error(letter + ";", 1);
            error(letter + "x", 1);
            error(letter + "1x", 2);
            error(letter + "12x", 3);
            error(letter + "123", 3);
        }
        error("y", 1);
        error("y=", 1);
        error("y0", 2);
        error("y00=1", 2);
        error("y0-1", 2);
        error("y0=", 3);
        error("y0=x", 3);
        error("y0=123", 5);
        error("f", 1);
        error("fx", 1);
        error("f12", 2);
        error("t", 1);
        error("t-", 1);
        error("t12", 2);
        error("p", 1);
        error("p1", 2);
        error("p12", 2);
        error("p2", 1);
        error("p/", 1);
        error("p1111111", 8);
        error("p1111111;", 8);
        error("p111111111", 9);
        error("p11111111;k", 11);
        error("t0;?", 3);
        error("h99;h99;h", 9);
        error("h1:", 2);
        error("h/", 1);
        error("x;x;x;x;x;x;x;x;x;x;x;x;x;x;x;x;x;x;x;x;x;x;x;x;x;x;x;x;x;h1;".substring(0, 59), 59);
        error("x;x;x;x;x;x;x;x;x;x;x;x;x;x;x;x;x;x;x;x;x;x;x;x;x;x;x;x;x;x;", 60);
    }

    private static void error(String commands, int offset) {
        ShawlKnitter knitter = typed(commands);
        Check.refuses("execute() of '" + commands + "'", BAD_ARGUMENT, knitter::execute);
        Check.answers("syntaxErrorOffset() after '" + commands + "'", offset, knitter::syntaxErrorOffset);
    }

    private static void syntaxErrorsAreKept() {
        ShawlKnitter knitter = new ShawlKnitter();
        Check.refuses("syntaxErrorOffset() at first", NoSuchElementException.class, knitter::syntaxErrorOffset);
        View.type(knitter, "t5;h");
        String before = View.ofData(knitter);
        Check.refuses("execute()", BAD_ARGUMENT, knitter::execute);
        Check.same("the data after a syntax error", before, View.ofData(knitter));
        Check.refuses("rejectionReason()", NoSuchElementException.class, knitter::rejectionReason);
        View.type(knitter, "t5");
        knitter.saveSnapshot();
        knitter.execute();
        Check.answers("syntaxErrorOffset() after a success", 4, knitter::syntaxErrorOffset);
        View.type(knitter, "x");
        Check.refuses("execute()", REJECTED, knitter::execute);
        Check.answers("syntaxErrorOffset() after a rejection", 4, knitter::syntaxErrorOffset);
        knitter.undo();
        Check.answers("syntaxErrorOffset() after undo", 4, knitter::syntaxErrorOffset);
        knitter.restoreSnapshot();
        Check.answers("syntaxErrorOffset() after a snapshot", 4, knitter::syntaxErrorOffset);
        View.type(knitter, "?");
        Check.refuses("execute()", BAD_ARGUMENT, knitter::execute);
        Check.answers("syntaxErrorOffset() of the latest one", 0, knitter::syntaxErrorOffset);
    }
}
