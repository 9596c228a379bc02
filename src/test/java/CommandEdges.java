/** The sentences of the terms about commands: what follows what, and the offset of what does not. */
final class CommandEdges extends Edge {
    private static final int TERMS = Document.TERMS;
    private static final Setup FULL = bed(0, 23);
    private static final String DIGITS = "0123456789";
    /** What stands ahead, what can follow, and whether the input can end there. */
    private static final Object[][] FOLLOWERS = {{"", "cxhrdulgyftpqk", false}, {"x", ";", true}, {"q", ";", true},
        {"c", DIGITS, false}, {"c0", DIGITS + "-", false}, {"c99", "-", false}, {"c0-", DIGITS, false},
        {"c99-", DIGITS, false}, {"c0-0", DIGITS + ";", true}, {"c0-99", ";", true}, {"y", DIGITS, false},
        {"y0", "=", false}, {"y9", "=", false}, {"y0=", DIGITS, false}, {"y0=0", DIGITS + ";", true},
        {"y9=99", ";", true}, {"f", DIGITS, false}, {"f0", ";", true}, {"f9", ";", true}, {"t", DIGITS, false},
        {"t0", ";", true}, {"t9", ";", true}, {"p", "01", false}, {"p0", "01", false}, {"p10", "01", false},
        {"p101", "01", false}, {"p1010", "01", false}, {"p11111", "01", false}, {"p000000", "01", false},
        {"p1010101", "01", false}, {"p00000000", ";", true}, {"p11111111", ";", true}};

    private CommandEdges() {
    }

    static void run() {
        oneOrMoreCommands();
        rangesAndCastingOff();
        needlesOfCommands();
        transfers();
        digits();
        patternRows();
        knitting();
        numbers();
        offsets();
    }

    private static void oneOrMoreCommands() {
        sentence(TERMS, "The input has one or more commands, with \";\" between two of them.");
        errs("", 0);
        executes("q", 1, NEW);
        executes("q;q", 2, NEW);
        executes("q;q;q", 3, NEW);
        errs(";", 0);
        errs("q;", 2);
        errs(";q", 0);
        errs("q;;q", 2);
        errs("qq", 1);
        errs("q,q", 1);
        errs("q; q", 2);
        errs(" q", 0);
        errs("q ", 1);
    }

    private static void rangesAndCastingOff() {
        sentence(TERMS, "\"c\", a number, \"-\" and a number casts on a range of needles, and \"x\" casts off.");
        executes("c0-23", 1, NEW);
        bedIs("...1111.................", "c3-6", NEW);
        bedIs("1.......................", "c0-0", NEW);
        bedIs("..........11............", "c10-11", NEW);
        bedIs("........................", "c3-6;x", NEW);
        bedIs(".......................1", "c3-6;x;c23-23", NEW);
        rejectsCommands("c3-6;c6-7", 1, ShawlKnitter.IN_WORK, NEW);
        rejectsCommands("x", 0, ShawlKnitter.NO_LOOPS, NEW);
        refusesCommands("c6-3", NEW);
        errs("c3", 2);
        errs("c3-", 3);
        errs("c-3", 1);
        errs("c3=6", 2);
        errs("x3", 1);
        errs("X", 0);
    }

    private static void bedIs(String due, String commands, Setup setup) {
        answers("the bed after '" + commands + "'", due, and(setup, done(commands)),
                Edge::bedOf);
    }

    private static Setup done(String commands) {
        return knitter -> Trace.execute(knitter, commands);
    }

    private static void needlesOfCommands() {
        sentence(TERMS, "\"h\", \"r\", \"d\" or \"u\" and a number puts a needle on hold, releases it, drops its stitch"
                + " or picks it up.");
        Setup ready = and(FULL, yarn(0, 1));
        bedIs("a1111111111111111111111a", "h0;h23", ready);
        bedIs("a11111111111111111111111", "h0;h23;r23", ready);
        bedIs("o1111111111111111111111o", "d0;d23", ready);
        bedIs("o11111111111111111111111", "d0;d23;u23", ready);
        answers("yarnIn(0) after u23", 0, and(ready, done("d23;u23")), knitter -> knitter.yarnIn(0));
        answers("droppedLoops() after d23", 1, and(ready, done("d23")), ShawlKnitter::droppedLoops);
        rejectsCommands("h0;h0", 1, ShawlKnitter.ON_HOLD, ready);
        rejectsCommands("r0", 0, ShawlKnitter.NOT_ON_HOLD, ready);
        rejectsCommands("d0;d0", 1, ShawlKnitter.NO_LOOPS, ready);
        rejectsCommands("u0", 0, ShawlKnitter.HAS_LOOPS, ready);
        rejectsCommands("d0;d1;u0;u1", 3, ShawlKnitter.NO_YARN, ready);
        rejectsCommands("h0", 0, ShawlKnitter.NOT_IN_WORK, NEW);
        for (String letter : new String[] {"h", "r", "d", "u"}) {
            refusesCommands(letter + "24", ready);
        }
    }

    private static void transfers() {
        sentence(TERMS, "\"l\" or \"g\" and a number transfers the loops of a needle to the left, to the lower index,"
                + " or to the right.");
        bedIs("2.1111111111111111111111", "l1", FULL);
        bedIs("11111111111111111111112.", "l23", FULL);
        bedIs(".21111111111111111111111", "g0", FULL);
        bedIs("1111111111111111111111.2", "g22", FULL);
        rejectsCommands("l0", 0, ShawlKnitter.BED_END, FULL);
        rejectsCommands("g23", 0, ShawlKnitter.BED_END, FULL);
        rejectsCommands("l1;l2", 1, ShawlKnitter.NO_PARTNER, FULL);
        rejectsCommands("g1;g0", 1, ShawlKnitter.NO_PARTNER, FULL);
        rejectsCommands("g0;g1;g2", 2, ShawlKnitter.LOOP_LIMIT, FULL);
        refusesCommands("l24", FULL);
        refusesCommands("g24", FULL);
    }

    private static void digits() {
        sentence(TERMS, "\"y\", a digit, \"=\" and a number adds yarn to a feeder, \"f\" and a digit selects a feeder,"
                + " and \"t\" and a digit sets the tension.");
        for (int index = 0; index < 4; index++) {
            int feeder = index;
            answers("yarnIn(" + feeder + ")", 99, done("y" + feeder + "=99"), knitter -> knitter.yarnIn(feeder));
            answers("activeFeeder()", feeder, done("f" + feeder), ShawlKnitter::activeFeeder);
        }
        for (int tension = 1; tension <= 9; tension++) {
            answers("tension()", tension, done("t" + tension), ShawlKnitter::tension);
        }
        answers("yarnIn(3) after 'y3=1'", 1, done("y3=1"), knitter -> knitter.yarnIn(3));
        refusesCommands("y4=1", NEW);
        refusesCommands("y0=0", NEW);
        refusesCommands("f4", NEW);
        refusesCommands("t0", NEW);
        errs("y00=1", 2);
        errs("y0-1", 2);
        errs("y=1", 1);
        errs("f00", 2);
        errs("t10", 2);
        errs("f", 1);
        errs("t", 1);
    }

    private static void patternRows() {
        sentence(TERMS, "\"p\" and 8 digits, each 0 or 1, adds a row to the pattern, the first digit for the"
                + " column 0;");
        for (int column = 0; column < 8; column++) {
            int at = column;
            String row = "p" + "0".repeat(at) + "1" + "0".repeat(7 - at);
            String others = "p" + "1".repeat(at) + "0" + "1".repeat(7 - at);
            answers("isKnit(0, " + at + ") after " + row, true, done(row), knitter -> knitter.isKnit(0, at));
            answers("isKnit(0, " + at + ") after " + others, false, done(others), knitter -> knitter.isKnit(0, at));
            answers("nextWidth() after " + row, 3, and(FULL, done(row)), ShawlKnitter::nextWidth);
            answers("nextWidth() after " + others, 21, and(FULL, done(others)), ShawlKnitter::nextWidth);
        }
        executes("p00000000;p11111111;p00000000;p11111111;p00000000;p11111111", 6, NEW);
        answers("the pattern after other commands", "00000000 00000000 ", and(FULL, done("t7;h23"),
                done("p00000000;p00000000")), View::ofPattern);
        rejectsCommands("p11111111", 0, ShawlKnitter.PATTERN_LIMIT, rows(1, 2, 3, 4, 5, 6));
        errs("p0000000", 8);
        errs("p000000000", 9);
        errs("p00000002", 8);
        errs("p20000000", 1);
        errs("p", 1);
        sentence(TERMS, "\"q\" removes the pattern.");
        answers("patternRows()", 0, and(rows(1, 2, 3, 4, 5, 6), done("q")), ShawlKnitter::patternRows);
        executes("q", 1, NEW);
        errs("q0", 1);
    }

    private static void knitting() {
        sentence(TERMS, "\"k\" and a number knits courses.");
        for (int courses = 1; courses <= 10; courses++) {
            answers("courseCount()", courses, and(shawl(0), done("k" + courses)), ShawlKnitter::courseCount);
        }
        rejectsCommands("k10;k10;k10;k1", 3, ShawlKnitter.COURSE_LIMIT, shawl(0));
        refusesCommands("k0", shawl(0));
        refusesCommands("k11", shawl(0));
    }

    private static void numbers() {
        sentence(TERMS, "A number has one or two digits.");
        for (String letter : new String[] {"h", "r", "d", "u", "l", "g", "k", "c", "c0-", "y0="}) {
            int length = letter.length();
            errs(letter, length);
            errs(letter + "123", length + 2);
            errs(letter + "000", length + 2);
            errs(letter + "x", length);
            errs(letter + "-1", length);
            offsetIs(letter + "1", letter.equals("c") ? 2 : -1);
            offsetIs(letter + "12", letter.equals("c") ? 3 : -1);
            offsetIs(letter + "00", letter.equals("c") ? 3 : -1);
        }
        bedIs("..1111111111............", "c2-11", NEW);
        bedIs("..1111111...............", "c02-08", NEW);
        bedIs("............1...........", "c12-12", NEW);
        answers("yarnIn(0) after 'y0=9'", 9, done("y0=9"), knitter -> knitter.yarnIn(0));
        answers("yarnIn(0) after 'y0=09'", 9, done("y0=09"), knitter -> knitter.yarnIn(0));
        answers("yarnIn(0) after 'y0=90'", 90, done("y0=90"), knitter -> knitter.yarnIn(0));
    }

    private static void offsets() {
        sentence(TERMS, "The offset of a syntax error is the index of the first character that cannot follow the"
                + " characters ahead of it in any input; it is the length of the input if the input ends too early.");
        for (Object[] row : FOLLOWERS) {
            follow((String) row[0], (String) row[1], (Boolean) row[2]);
        }
        for (char letter : "hrdulgk".toCharArray()) {
            follow(String.valueOf(letter), DIGITS, false);
            follow(letter + "0", DIGITS + ";", true);
            follow(letter + "99", ";", true);
        }
        String long59 = "q;".repeat(29) + "q";
        offsetIs(long59, -1);
        offsetIs(long59.substring(0, 58), 58);
        offsetIs(long59 + "q", 59);
        offsetIs(long59 + ";", 60);
        errs("h99;y9=0;t0;p2", 13);
    }

    /** In a first command and in a later one: each sign that cannot follow is the error, and no other one is. */
    private static void follow(String ahead, String followers, boolean end) {
        for (String start : new String[] {"", "q;", "c0-99;t0;"}) {
            String text = start + ahead;
            offsetIs(text, end ? -1 : text.length());
            for (char sign = 32; sign < 127; sign++) {
                if (followers.indexOf(sign) < 0) {
                    offsetIs(text + sign, text.length());
                    offsetIs(text + sign + "q;q", text.length());
                } else {
                    answers("the offset of '" + text + sign + "'", true, tried(text + sign),
                            knitter -> isBeyond(knitter, text.length()));
                }
            }
        }
    }

    private static boolean isBeyond(ShawlKnitter knitter, int length) {
        String offset = View.ofSyntaxError(knitter);
        return offset.equals("NoSuchElementException") || offset.equals(String.valueOf(length + 1));
    }

    /** The offset of a syntax error, or -1 if there is none, whatever else comes of the commands. */
    private static void offsetIs(String commands, int offset) {
        answers("the offset of '" + commands + "'", offset < 0 ? "NoSuchElementException" : offset, tried(commands),
                View::ofSyntaxError);
        answers("what '" + commands + "' throws", offset >= 0, NEW, knitter -> Check.outcome(() ->
                Trace.execute(knitter, commands)).equals("IllegalArgumentException"));
    }
}
