/** The sentences of promises 51 to 56: text output and commands. */
final class TextEdges extends Edge {
    private static final Setup FULL = bed(0, 23);
    /** The longest input, of 30 commands. */
    private static final String THIRTY = "q;q;q;q;q;q;q;q;q;q;q;q;q;q;q;q;q;q;q;q;q;q;q;q;q;q;q;q;q;t5";

    private TextEdges() {
    }

    static void run() {
        writeBed();
        writeCourse();
        exampleOfCourse();
        noSuchCourse();
        charactersOfOutput();
        outputAt();
        codesOfInput();
        lengthOfInput();
        orderOfInput();
        execute();
        inputIsEmptied();
        syntaxErrorsOfExecute();
        argumentsOfCommands();
        firstCommandThatFails();
        rejectedCommands();
        syntaxErrorOffset();
    }

    // ---- output

    private static void writeBed() {
        sentence(51, "for each needle \".\" if it is not in work, \"o\" if it is in work without loops, and otherwise"
                + " the number of its loops; a needle on hold has \"h\" in place of \"o\"");
        bedIs("........................", NEW);
        for (int needle : new int[] {0, 12, 22}) {
            for (int count = 0; count <= 3; count++) {
                Setup setup = and(bed(needle, needle), count == 0 ? drop(needle) : loops(needle, count));
                bedIs(bedWith(needle, "o123".charAt(count)), setup);
                bedIs(bedWith(needle, "habc".charAt(count)), and(setup, hold(needle)));
            }
        }
        bedIs(bedWith(23, '1'), bed(23, 23));
        bedIs(bedWith(23, 'h'), and(bed(23, 23), hold(23), drop(23)));
        bedIs("111111111111111111111111", FULL);
        sentence(51, "Returns the length of the output.");
        answers("writeBed() at first", 24, NEW, ShawlKnitter::writeBed);
        answers("writeBed() of all", 24, FULL, ShawlKnitter::writeBed);
        sentence(51, "Writes the bed to the output, in place of the earlier output");
        bedIs("1.......................", and(FULL, ShawlKnitter::writeBed, ShawlKnitter::castOff, bed(0, 0)));
        bedIs("1.......................", and(shawl(1), knitter -> knitter.writeCourse(0)));
    }

    private static String bedWith(int needle, char sign) {
        return ".".repeat(needle) + sign + ".".repeat(23 - needle);
    }

    private static void bedIs(String due, Setup setup) {
        answers("the bed", due + "IndexOutOfBoundsException", and(setup, ShawlKnitter::writeBed), View::ofOutput);
    }

    private static void writeCourse() {
        sentence(52, "its index, \":\", its width, \"f\" and its feeder, \"y\" and its yarn, and if loops dropped,"
                + " \"!\" and their number.");
        courseIs("0:1f0y1", 0, shawl(1));
        courseIs("9:1f0y1", 9, shawl(30));
        courseIs("10:1f0y1", 10, shawl(30));
        courseIs("29:1f0y1", 29, shawl(30));
        courseIs("0:24f3y192", 0, and(FULL, tension(8), yarn(3, 192), feeder(3), courses(1)));
        Setup aging = and(bed(0, 0), yarn(0, 200), tension(1));
        courseIs("5:1f0y1!1", 5, and(aging, bed(1, 1), hold(1), courses(6)));
        courseIs("4:1f0y1", 4, and(aging, bed(1, 1), hold(1), courses(6)));
        courseIs("6:1f0y1", 6, and(aging, bed(1, 1), hold(1), courses(7)));
        courseIs("5:1f0y1!9", 5, and(aging, rows(1), bed(1, 6), loops(6, 3), bed(7, 7), courses(6)));
        courseIs("5:3f0y3!21", 5, and(aging, rows(1), bed(1, 23), courses(6)));
        sentence(52, "Returns the length of the output.");
        answers("writeCourse(0)", 7, shawl(1), knitter -> knitter.writeCourse(0));
        answers("writeCourse(29)", 8, shawl(30), knitter -> knitter.writeCourse(29));
        sentence(52, "Writes a course to the output, in place of the earlier output");
        courseIs("0:1f0y1", 0, and(shawl(1), ShawlKnitter::writeBed));
        courseIs("9:1f0y1", 9, and(shawl(30), knitter -> knitter.writeCourse(29)));
    }

    private static void exampleOfCourse() {
        sentence(52, "An example is \"4:12f0y36!2\".");
        // Loops drop in the course 5 at the earliest, so the example can only be followed in its form.
        Setup twelve = and(bed(0, 13), hold(2, 12), yarn(0, 199), courses(4));
        courseIs("4:12f0y36", 4, and(twelve, courses(1)));
        courseIs("5:12f0y36!2", 5, and(twelve, courses(1), knitter -> knitter.addYarn(0, 35), courses(1)));
        sentence(52, "- `course`: the index of a course");
        Setup different = and(shawl(0), rows(1, 3, 7), bed(1, 2), courses(10));
        for (int index = 0; index < 10; index++) {
            int width = index % 3 + 1;
            courseIs(index + ":" + width + "f0y" + width, index, different);
        }
    }

    private static void courseIs(String due, int course, Setup setup) {
        answers("the course " + course, due + "IndexOutOfBoundsException",
                and(setup, knitter -> knitter.writeCourse(course)), View::ofOutput);
    }

    private static void noSuchCourse() {
        sentence(52, "Throws `IndexOutOfBoundsException` if there is no such course");
        for (int courses : new int[] {1, 2, 10, 30}) {
            boundsAre(courses, NO_INDEX, "writeCourse", and(shawl(courses), ShawlKnitter::writeBed), true,
                    (knitter, course) -> knitter.writeCourse(course) > 6);
        }
        refuses("writeCourse(0) at first", NO_INDEX, NEW, knitter -> knitter.writeCourse(0));
        refuses("writeCourse(0) after castOff()", NO_INDEX, and(shawl(30), ShawlKnitter::castOff),
                knitter -> knitter.writeCourse(0));
        refuses("writeCourse(0) after undo()", NO_INDEX, and(shawl(1), ShawlKnitter::undo),
                knitter -> knitter.writeCourse(0));
    }

    private static void charactersOfOutput() {
        sentence(53, "Returns a character of the output.");
        Setup course = and(bed(0, 12), hold(12), yarn(0, 200), tension(2), courses(6),
                knitter -> knitter.writeCourse(5));
        String due = "5:12f0y24!1";
        for (int index = 0; index < due.length(); index++) {
            int at = index;
            answers("outputAt(" + at + ") of a course", due.charAt(at), course, knitter -> knitter.outputAt(at));
        }
        sentence(53, "Returns the character.");
        Setup bed = and(bed(0, 0), bed(22, 22), hold(22), loops(22, 3), ShawlKnitter::writeBed);
        answers("outputAt(0) of a bed", '1', bed, knitter -> knitter.outputAt(0));
        answers("outputAt(1) of a bed", '.', bed, knitter -> knitter.outputAt(1));
        answers("outputAt(22) of a bed", 'c', bed, knitter -> knitter.outputAt(22));
        answers("outputAt(22) after the bed was changed", 'c', and(bed, ShawlKnitter::castOff),
                knitter -> knitter.outputAt(22));
    }

    private static void outputAt() {
        sentence(53, "The output is empty at first.");
        refuses("outputAt(0)", NO_INDEX, NEW, knitter -> knitter.outputAt(0));
        sentence(53, "- `index`: the index, from 0");
        indexesAre(24, "outputAt", and(FULL, ShawlKnitter::writeBed), '1', ShawlKnitter::outputAt);
        sentence(53, "Throws `IndexOutOfBoundsException` if there is no character at this index");
        boundsAre(24, NO_INDEX, "outputAt", and(FULL, ShawlKnitter::writeBed), '1', ShawlKnitter::outputAt);
        Setup shorter = and(shawl(30), ShawlKnitter::writeBed, knitter -> knitter.writeCourse(11));
        answers("outputAt(7)", '1', shorter, knitter -> knitter.outputAt(7));
        refuses("outputAt(8) of an output in place of a longer one", NO_INDEX, shorter,
                knitter -> knitter.outputAt(8));
    }

    // ---- input

    private static void codesOfInput() {
        sentence(54, "- `character`: the character, with a code from 32 to 126");
        for (int code = 32; code <= 126; code++) {
            char character = (char) code;
            answers("appendInput of the code " + code, 1, NEW, knitter -> knitter.appendInput(character));
        }
        sentence(54, "Throws `IllegalArgumentException` if the code is out of range");
        for (int code : new int[] {32, 126}) {
            answers("appendInput of the code " + code, 1, NEW, knitter -> knitter.appendInput((char) code));
        }
        for (int code : new int[] {0, 10, 31, 127, 128, 255, 256, 256 + 't', 0x7FFF, 0x8000, 65535}) {
            refuses("appendInput of the code " + code, BAD_ARGUMENT, NEW, knitter -> knitter.appendInput((char) code));
            refuses("appendInput of the code " + code + " to 60 characters", BAD_ARGUMENT, typed(THIRTY),
                    knitter -> knitter.appendInput((char) code));
        }
    }

    private static Setup typed(String text) {
        return knitter -> View.type(knitter, text);
    }

    private static void lengthOfInput() {
        sentence(54, "Returns the length of the input after the call.");
        for (int length = 1; length <= 60; length++) {
            answers("appendInput('x')", length, typed("x".repeat(length - 1)), knitter -> knitter.appendInput('x'));
        }
        sentence(54, "Throws `IllegalStateException` if the input has 60 characters");
        answers("appendInput('5') to 59 characters", 60, typed(THIRTY.substring(0, 59)),
                knitter -> knitter.appendInput('5'));
        refuses("appendInput('5') to 60 characters", BAD_STATE, typed(THIRTY), knitter -> knitter.appendInput('5'));
        refuses("appendInput(' ') to 60 characters", BAD_STATE, typed(" ".repeat(60)),
                knitter -> knitter.appendInput(' '));
        answers("execute() of the 60 characters after it", 30,
                and(typed(THIRTY), tried(knitter -> knitter.appendInput('5'))),
                ShawlKnitter::execute);
        answers("appendInput('5') after execute() of 60 characters", 1, and(typed(THIRTY), ShawlKnitter::execute),
                knitter -> knitter.appendInput('5'));
    }

    private static void orderOfInput() {
        sentence(54, "Appends a character to the input.");
        answers("tension() after 't5;t6'", 6, and(typed("t5;t6"), ShawlKnitter::execute), ShawlKnitter::tension);
        answers("tension() after 't6;t5'", 5, and(typed("t6;t5"), ShawlKnitter::execute), ShawlKnitter::tension);
        answers("needlesInWork() after 'c2-13'", 12, and(typed("c2-"), typed("1"), typed("3"), ShawlKnitter::execute),
                ShawlKnitter::needlesInWork);
        answers("needlesInWork() ahead of execute()", 0, typed("c2-13"), ShawlKnitter::needlesInWork);
        answers("execute() after calls between the characters", 1, and(typed("c"), bed(5, 6), ShawlKnitter::undo,
                typed("0"), tried(ShawlKnitter::castOff), typed("-2"), ShawlKnitter::saveSnapshot, typed("3"),
                ShawlKnitter::restoreSnapshot, ShawlKnitter::writeBed), ShawlKnitter::execute);
    }

    // ---- execute

    private static void execute() {
        sentence(55, "Executes the commands of the input, all of them or none.");
        executes("c0-23;h0;r0;d5", 4, NEW);
        rejectsCommands("c0-23;h0;r0;d5;r0", 4, ShawlKnitter.NOT_ON_HOLD, NEW);
        refusesCommands("c0-23;h0;r0;d5;h24", NEW);
        answers("undo() of all of them", 0, knitter -> Trace.execute(knitter, "c0-23;h0;r0;d5"), ShawlKnitter::undo);
        answers("needlesInWork() after it", 0, knitter -> {
            Trace.execute(knitter, "c0-23;h0;r0;d5");
            knitter.undo();
        }, ShawlKnitter::needlesInWork);
        sentence(55, "Returns the number of commands.");
        executes("q", 1, NEW);
        executes("q;t1", 2, NEW);
        executes(THIRTY, 30, NEW);
        executes(THIRTY.substring(0, 57), 29, NEW);
    }

    private static void inputIsEmptied() {
        sentence(55, "The input is empty after the call, also if an exception is thrown.");
        for (String commands : new String[] {"t5", "", "t", "t0", "x", "x;t0", THIRTY, THIRTY.substring(0, 58),
            THIRTY.substring(0, 58) + "x;", THIRTY.substring(0, 58) + "t0"}) {
            answers("appendInput('t') after execute() of '" + commands + "'", 1, tried(commands),
                    knitter -> knitter.appendInput('t'));
            answers("execute() of 't4' after execute() of '" + commands + "'", 1, tried(commands),
                    knitter -> Trace.execute(knitter, "t4"));
        }
    }

    private static void syntaxErrorsOfExecute() {
        sentence(55, "Throws `IllegalArgumentException` if the input has a syntax error; syntaxErrorOffset returns its"
                + " offset");
        executes("t5", 1, NEW);
        errs("", 0);
        errs("t", 1);
        errs("t5;", 3);
        errs("t55", 2);
        errs("t0;x;t5;", 8);
        errs("c0-24;h24;h", 11);
        errs("x;?", 2);
    }

    private static void argumentsOfCommands() {
        sentence(55, "Throws `IllegalStateException` if the first command that fails has a needle, a feeder or a number"
                + " that its method does not accept");
        executes("c0-23", 1, NEW);
        executes("c23-23", 1, NEW);
        executes("c00-00", 1, NEW);
        for (String commands : new String[] {"c0-24", "c24-24", "c24-23", "c0-99", "c99-0", "c1-0", "c23-22"}) {
            refusesCommands(commands, NEW);
            refusesCommands(commands, FULL);
        }
        executes("h23;r23;d23;u23;l23", 5, and(FULL, yarn(0, 1)));
        executes("h0;r0;d0;u0;g0", 5, and(FULL, yarn(0, 1)));
        for (String letter : new String[] {"h", "r", "d", "u", "l", "g"}) {
            refusesCommands(letter + "24", FULL);
            refusesCommands(letter + "99", NEW);
        }
        executes("y0=1;y3=99;y1=09", 3, NEW);
        for (String commands : new String[] {"y4=1", "y9=99", "y0=0", "y3=00", "y4=0"}) {
            refusesCommands(commands, and(yarn(0, 200), yarn(3, 200)));
        }
        executes("f0;f3;t1;t9", 4, NEW);
        for (String commands : new String[] {"f4", "f9", "t0"}) {
            refusesCommands(commands, NEW);
        }
        executes("k1;k01;k10", 3, shawl(0));
        for (String commands : new String[] {"k0", "k00", "k11", "k99"}) {
            refusesCommands(commands, shawl(0));
            refusesCommands(commands, shawl(30));
        }
        executes("p00000000;p11111111", 2, NEW);
    }

    private static void firstCommandThatFails() {
        sentence(55, "Throws `IllegalStateException` if the first command that fails has a needle, a feeder or a number"
                + " that its method does not accept");
        refusesCommands("t0;x", NEW);
        rejectsCommands("x;t0", 0, ShawlKnitter.NO_LOOPS, NEW);
        refusesCommands("t5;t0;x", NEW);
        rejectsCommands("t5;x;t0", 1, ShawlKnitter.NO_LOOPS, NEW);
        refusesCommands("c0-0;x;t0;x", NEW);
        executes("c0-0;x;t1;c0-0", 4, NEW);
    }

    private static void rejectedCommands() {
        sentence(55, "Throws `UnsupportedOperationException` if the call is rejected with the reason COMMAND_REJECTED");
        executes("c0-0;x", 2, NEW);
        rejectsCommands("x", 0, ShawlKnitter.NO_LOOPS, NEW);
        rejectsCommands("c0-0;x;x", 2, ShawlKnitter.NO_LOOPS, NEW);
        rejectsCommands(THIRTY.substring(0, 58) + "h0", 29, ShawlKnitter.NOT_IN_WORK, NEW);
        rejectsCommands("y0=99;y0=99;y0=3", 2, ShawlKnitter.YARN_LIMIT, NEW);
        executes("y0=99;y0=99;y0=2", 3, NEW);
        rejectsCommands("k10;k10;k10;k1", 3, ShawlKnitter.COURSE_LIMIT, shawl(0));
        executes("k10;k10;k10", 3, shawl(0));
        rejectsCommands("p00000000;k1", 1, ShawlKnitter.NOTHING_TO_KNIT, shawl(0));
        rejectsCommands("t9;k10;k10;k3", 3, ShawlKnitter.NO_YARN, shawl(0));
        executes("t9;k10;k10;k2", 4, shawl(0));
        rejectsCommands("p00000001;p00000001", 1, ShawlKnitter.PATTERN_LIMIT, rows(1, 2, 3, 4, 5));
        executes("q;p00000001;p00000001", 3, rows(1, 2, 3, 4, 5, 6));
    }

    private static void syntaxErrorOffset() {
        sentence(56, "Returns the offset.");
        for (int offset = 0; offset <= 60; offset++) {
            String right = "q;".repeat(offset / 2) + (offset % 2 == 1 ? "q" : "");
            answers("syntaxErrorOffset() after " + offset + " characters", offset,
                    tried(right + (offset < 60 ? "?" : "")), ShawlKnitter::syntaxErrorOffset);
        }
        sentence(56, "Throws `NoSuchElementException` if there was no syntax error");
        answers("syntaxErrorOffset() at first", "NoSuchElementException", NEW, ShawlKnitter::syntaxErrorOffset);
        for (String commands : new String[] {"t5", "x", "t0", "t0;x"}) {
            refuses("syntaxErrorOffset() after execute() of '" + commands + "'", NO_ELEMENT, tried(commands),
                    ShawlKnitter::syntaxErrorOffset);
        }
        refuses("syntaxErrorOffset() with a wrong input that is not executed", NO_ELEMENT, typed("t"),
                ShawlKnitter::syntaxErrorOffset);
        answers("syntaxErrorOffset() after execute() without input", 0, tried(""), ShawlKnitter::syntaxErrorOffset);
        answers("syntaxErrorOffset() after 59 characters", 59, tried(THIRTY.substring(0, 59)),
                ShawlKnitter::syntaxErrorOffset);
        answers("syntaxErrorOffset() after 60 characters", 60, tried(THIRTY.substring(0, 58) + "q;"),
                ShawlKnitter::syntaxErrorOffset);
        sentence(56, "Returns the offset of the latest syntax error.");
        answers("syntaxErrorOffset() of the second", 1, and(tried("x;;"), tried("t")),
                ShawlKnitter::syntaxErrorOffset);
        for (String commands : new String[] {"t5", "x", "t0"}) {
            answers("syntaxErrorOffset() after execute() of '" + commands + "'", 2, and(tried("x;;"), tried(commands)),
                    ShawlKnitter::syntaxErrorOffset);
        }
        answers("syntaxErrorOffset() after undo()", 2, and(tension(5), tried("x;;"), ShawlKnitter::undo),
                ShawlKnitter::syntaxErrorOffset);
        answers("syntaxErrorOffset() after restoreSnapshot()", 2,
                and(ShawlKnitter::saveSnapshot, tried("x;;"), ShawlKnitter::restoreSnapshot),
                ShawlKnitter::syntaxErrorOffset);
    }
}
