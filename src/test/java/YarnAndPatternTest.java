/** Promises 19 to 28: yarn, tension and pattern. */
public final class YarnAndPatternTest {
    private static final Class<IndexOutOfBoundsException> NO_INDEX = IndexOutOfBoundsException.class;
    private static final Class<IllegalArgumentException> BAD_ARGUMENT = IllegalArgumentException.class;

    public static void main(String[] arguments) {
        addYarn();
        selectFeeder();
        setTension();
        addPatternRow();
        clearPattern();
        yarnIn();
        activeFeeder();
        tension();
        patternRows();
        isKnit();
        Check.finish();
    }

    private static void addYarn() {
        Check.promise(19, "addYarn");
        ShawlKnitter knitter = new ShawlKnitter();
        Check.answers("addYarn(3, 1)", 1, () -> knitter.addYarn(3, 1));
        Check.answers("addYarn(3, 99)", 100, () -> knitter.addYarn(3, 99));
        Check.answers("addYarn(3, 99) again", 199, () -> knitter.addYarn(3, 99));
        Check.rejects("addYarn(3, 2)", ShawlKnitter.YARN_LIMIT, 199, knitter, () -> knitter.addYarn(3, 2));
        Check.answers("addYarn(3, 1) up to the limit", 200, () -> knitter.addYarn(3, 1));
        Check.rejects("addYarn(3, 1) over it", ShawlKnitter.YARN_LIMIT, 200, knitter, () -> knitter.addYarn(3, 1));
        Check.answers("addYarn(0, 5)", 5, () -> knitter.addYarn(0, 5));
        Check.answers("yarnAdded()", 205, knitter::yarnAdded);
        Check.refusesIdly("addYarn(4, 1)", NO_INDEX, knitter, () -> knitter.addYarn(4, 1));
        Check.refuses("addYarn(-1, 1)", NO_INDEX, () -> knitter.addYarn(-1, 1));
        Check.refuses("addYarn(4, 0), with no units, too", NO_INDEX, () -> knitter.addYarn(4, 0));
        Check.refusesIdly("addYarn(0, 0)", BAD_ARGUMENT, knitter, () -> knitter.addYarn(0, 0));
        Check.refuses("addYarn(0, -1)", BAD_ARGUMENT, () -> knitter.addYarn(0, -1));
        Check.refuses("addYarn(3, 100), over the limit, too", BAD_ARGUMENT, () -> knitter.addYarn(3, 100));
        Check.refuses("addYarn of the greatest int", BAD_ARGUMENT, () -> knitter.addYarn(3, Integer.MAX_VALUE));
    }

    private static void selectFeeder() {
        Check.promise(20, "selectFeeder");
        ShawlKnitter knitter = new ShawlKnitter();
        Check.answers("selectFeeder(3)", 0, () -> knitter.selectFeeder(3));
        Check.answers("selectFeeder(3) again", 3, () -> knitter.selectFeeder(3));
        Check.answers("selectFeeder(0)", 3, () -> knitter.selectFeeder(0));
        Check.answers("undo()", 2, knitter::undo);
        Check.answers("activeFeeder()", 3, knitter::activeFeeder);
        Check.refusesIdly("selectFeeder(4)", NO_INDEX, knitter, () -> knitter.selectFeeder(4));
        Check.refuses("selectFeeder(-1)", NO_INDEX, () -> knitter.selectFeeder(-1));
    }

    private static void setTension() {
        Check.promise(21, "setTension");
        ShawlKnitter knitter = new ShawlKnitter();
        Check.answers("setTension(9)", 3, () -> knitter.setTension(9));
        Check.answers("setTension(1)", 9, () -> knitter.setTension(1));
        Check.answers("setTension(1) again", 1, () -> knitter.setTension(1));
        Check.refusesIdly("setTension(0)", BAD_ARGUMENT, knitter, () -> knitter.setTension(0));
        Check.refuses("setTension(10)", BAD_ARGUMENT, () -> knitter.setTension(10));
        Check.refuses("setTension(-1)", BAD_ARGUMENT, () -> knitter.setTension(-1));
    }

    private static void addPatternRow() {
        Check.promise(22, "addPatternRow");
        ShawlKnitter knitter = new ShawlKnitter();
        Check.answers("addPatternRow(0)", 1, () -> knitter.addPatternRow(0));
        Check.answers("addPatternRow(255)", 2, () -> knitter.addPatternRow(255));
        for (int row = 3; row <= 6; row++) {
            Check.answers("addPatternRow(" + row + ")", row, () -> knitter.addPatternRow(5));
        }
        Check.rejects("a row 7", ShawlKnitter.PATTERN_LIMIT, 6, knitter, () -> knitter.addPatternRow(1));
        Check.refusesIdly("addPatternRow(256)", BAD_ARGUMENT, knitter, () -> knitter.addPatternRow(256));
        Check.refuses("addPatternRow(-1)", BAD_ARGUMENT, () -> knitter.addPatternRow(-1));
        Check.answers("isKnit(5, 2)", true, () -> knitter.isKnit(5, 2));
        Check.answers("isKnit(5, 1)", false, () -> knitter.isKnit(5, 1));
    }

    private static void clearPattern() {
        Check.promise(23, "clearPattern");
        ShawlKnitter knitter = new ShawlKnitter();
        Check.answers("clearPattern() without rows", 0, knitter::clearPattern);
        knitter.addPatternRow(0);
        knitter.addPatternRow(1);
        knitter.castOn(0, 7);
        Check.answers("clearPattern()", 2, knitter::clearPattern);
        Check.answers("patternRows()", 0, knitter::patternRows);
        Check.answers("nextWidth(), all knit", 8, knitter::nextWidth);
        Check.answers("addPatternRow(2)", 1, () -> knitter.addPatternRow(2));
        Check.answers("isKnit(0, 0)", false, () -> knitter.isKnit(0, 0));
    }

    private static void yarnIn() {
        Check.promise(24, "yarnIn");
        ShawlKnitter knitter = new ShawlKnitter();
        knitter.addYarn(0, 40);
        knitter.addYarn(3, 50);
        knitter.castOn(0, 1);
        knitter.knit(2);
        Check.answers("yarnIn(0)", 28, () -> knitter.yarnIn(0));
        Check.answers("yarnIn(1)", 0, () -> knitter.yarnIn(1));
        Check.answers("yarnIn(3)", 50, () -> knitter.yarnIn(3));
        Check.refuses("yarnIn(4)", NO_INDEX, () -> knitter.yarnIn(4));
        Check.refuses("yarnIn(-1)", NO_INDEX, () -> knitter.yarnIn(-1));
    }

    private static void activeFeeder() {
        Check.promise(25, "activeFeeder");
        ShawlKnitter knitter = new ShawlKnitter();
        Check.answers("activeFeeder() at first", 0, knitter::activeFeeder);
        knitter.selectFeeder(2);
        Check.answers("activeFeeder()", 2, knitter::activeFeeder);
    }

    private static void tension() {
        Check.promise(26, "tension");
        ShawlKnitter knitter = new ShawlKnitter();
        Check.answers("tension() at first", 3, knitter::tension);
        knitter.setTension(7);
        Check.answers("tension()", 7, knitter::tension);
    }

    private static void patternRows() {
        Check.promise(27, "patternRows");
        ShawlKnitter knitter = new ShawlKnitter();
        Check.answers("patternRows() at first", 0, knitter::patternRows);
        knitter.addPatternRow(0);
        Check.answers("patternRows()", 1, knitter::patternRows);
        knitter.castOn(0, 0);
        knitter.castOff();
        Check.answers("patternRows() after castOff", 1, knitter::patternRows);
    }

    private static void isKnit() {
        Check.promise(28, "isKnit");
        ShawlKnitter knitter = new ShawlKnitter();
        Check.refuses("isKnit(0, 0) without rows", NO_INDEX, () -> knitter.isKnit(0, 0));
        knitter.addPatternRow(0x81);
        knitter.addPatternRow(0x7E);
        for (int column = 0; column < 8; column++) {
            int at = column;
            boolean atAnEnd = column == 0 || column == 7;
            Check.answers("isKnit(0, " + at + ")", atAnEnd, () -> knitter.isKnit(0, at));
            Check.answers("isKnit(1, " + at + ")", !atAnEnd, () -> knitter.isKnit(1, at));
        }
        Check.refuses("isKnit(2, 0)", NO_INDEX, () -> knitter.isKnit(2, 0));
        Check.refuses("isKnit(-1, 0)", NO_INDEX, () -> knitter.isKnit(-1, 0));
        Check.refuses("isKnit(0, 8)", NO_INDEX, () -> knitter.isKnit(0, 8));
        Check.refuses("isKnit(0, -1)", NO_INDEX, () -> knitter.isKnit(0, -1));
    }
}
