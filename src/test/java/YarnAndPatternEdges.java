import java.util.Arrays;

/** The sentences of promises 19 to 28: yarn, tension and pattern. */
final class YarnAndPatternEdges extends Edge {
    private YarnAndPatternEdges() {
    }

    static void run() {
        addYarn();
        addYarnUpToTheLimit();
        selectFeeder();
        setTension();
        addPatternRow();
        clearPattern();
        yarnIn();
        answersAtFirst();
        isKnit();
    }

    private static void addYarn() {
        sentence(19, "Adds yarn to a feeder.");
        for (int index = 0; index < 4; index++) {
            int feeder = index;
            answers("the feeders after addYarn(" + feeder + ", 30)", yarnWith(feeder, 50),
                    and(yarn(0, 20), yarn(1, 20), yarn(2, 20), yarn(3, 20), knitter -> knitter.addYarn(feeder, 30)),
                    YarnAndPatternEdges::yarnOfAll);
        }
        feedersAre(19, "addYarn", NEW, 7, (knitter, feeder) -> knitter.addYarn(feeder, 7));
        sentence(19, "Throws `IndexOutOfBoundsException` if there is no such feeder");
        answers("addYarn(3, 99)", 99, NEW, knitter -> knitter.addYarn(3, 99));
        refuses("addYarn(4, 0), with no units, too", NO_INDEX, NEW, knitter -> knitter.addYarn(4, 0));
        refuses("addYarn(-1, 100), with too many units, too", NO_INDEX, NEW, knitter -> knitter.addYarn(-1, 100));
        sentence(19, "- `units`: the units of yarn, 1 to 99");
        for (int units = 1; units <= 99; units++) {
            int added = units;
            answers("addYarn(2, " + added + ")", added, NEW, knitter -> knitter.addYarn(2, added));
        }
        sentence(19, "Throws `IllegalArgumentException` if units is out of range");
        answers("addYarn(0, 1)", 1, NEW, knitter -> knitter.addYarn(0, 1));
        answers("addYarn(0, 99)", 99, NEW, knitter -> knitter.addYarn(0, 99));
        for (int units : new int[] {0, -1, 100, Integer.MIN_VALUE, Integer.MAX_VALUE}) {
            refuses("addYarn(0, " + units + ")", BAD_ARGUMENT, NEW, knitter -> knitter.addYarn(0, units));
            refuses("addYarn(3, " + units + ") to a full feeder", BAD_ARGUMENT, yarn(3, 200),
                    knitter -> knitter.addYarn(3, units));
        }
    }

    /** The yarn of all feeders, of which the others have 20 units. */
    private static String yarnWith(int feeder, int units) {
        StringBuilder text = new StringBuilder();
        for (int index = 0; index < 4; index++) {
            text.append(index == feeder ? units : 20).append(' ');
        }
        return text.toString();
    }

    private static String yarnOfAll(ShawlKnitter knitter) {
        StringBuilder text = new StringBuilder();
        for (int index = 0; index < 4; index++) {
            text.append(knitter.yarnIn(index)).append(' ');
        }
        return text.toString();
    }

    private static void addYarnUpToTheLimit() {
        sentence(19, "Returns the yarn in the feeder after the call.");
        answers("addYarn(1, 99) to 101", 200, yarn(1, 101), knitter -> knitter.addYarn(1, 99));
        answers("addYarn(1, 1) beside a full one", 1, yarn(0, 200), knitter -> knitter.addYarn(1, 1));
        sentence(19, "Throws `UnsupportedOperationException` if the call is rejected with the reason YARN_LIMIT");
        answers("addYarn(1, 1) to 199", 200, yarn(1, 199), knitter -> knitter.addYarn(1, 1));
        rejects("addYarn(1, 2) to 199", ShawlKnitter.YARN_LIMIT, 199, yarn(1, 199), knitter -> knitter.addYarn(1, 2));
        rejects("addYarn(1, 1) to 200", ShawlKnitter.YARN_LIMIT, 200, yarn(1, 200), knitter -> knitter.addYarn(1, 1));
        rejects("addYarn(3, 99) to 102", ShawlKnitter.YARN_LIMIT, 102, yarn(3, 102),
                knitter -> knitter.addYarn(3, 99));
        answers("addYarn(0, 3) to one that a course has taken 3 from", 200, and(bed(0, 0), yarn(0, 200), courses(1)),
                knitter -> knitter.addYarn(0, 3));
        rejects("addYarn(0, 4) to it", ShawlKnitter.YARN_LIMIT, 197, and(bed(0, 0), yarn(0, 200), courses(1)),
                knitter -> knitter.addYarn(0, 4));
        answers("yarnAdded() of four full feeders", 800, and(yarn(0, 200), yarn(1, 200), yarn(2, 200), yarn(3, 200)),
                ShawlKnitter::yarnAdded);
    }

    private static void selectFeeder() {
        sentence(20, "Makes a feeder the active one.");
        Setup equal = and(bed(0, 2), yarn(0, 20), yarn(1, 20), yarn(2, 20), yarn(3, 20));
        for (int feeder = 0; feeder < 4; feeder++) {
            Setup knit = and(equal, feeder(feeder), courses(1));
            answers("activeFeeder() after selectFeeder(" + feeder + ")", feeder, knit, ShawlKnitter::activeFeeder);
            answers("the feeders after a course", yarnWith(feeder, 11), knit, YarnAndPatternEdges::yarnOfAll);
            answers("the feeders after pickUp", yarnWith(feeder, 19), and(equal, feeder(feeder), drop(1),
                    knitter -> knitter.pickUp(1)), YarnAndPatternEdges::yarnOfAll);
        }
        feedersAre(20, "selectFeeder", NEW, 0, ShawlKnitter::selectFeeder);
        sentence(20, "Returns the feeder that was active before.");
        for (int before = 0; before < 4; before++) {
            answers("selectFeeder(3)", before, feeder(before), knitter -> knitter.selectFeeder(3));
            answers("selectFeeder(0)", before, feeder(before), knitter -> knitter.selectFeeder(0));
            answers("activeFeeder()", before, feeder(before), ShawlKnitter::activeFeeder);
        }
    }

    private static void setTension() {
        sentence(21, "Sets the tension.");
        for (int tension = 1; tension <= 9; tension++) {
            answers("yarnOf(1) after setTension(" + tension + ")", 3 * tension, and(bed(0, 2), yarn(0, 99), courses(1),
                    tension(tension), courses(1)), knitter -> knitter.yarnOf(1));
            answers("yarnOf(0) after it", 9, and(bed(0, 2), yarn(0, 99), courses(1), tension(tension)),
                    knitter -> knitter.yarnOf(0));
        }
        sentence(21, "- `tension`: the new tension, 1 to 9");
        for (int tension = 1; tension <= 9; tension++) {
            int due = tension;
            answers("setTension(" + due + ")", 3, NEW, knitter -> knitter.setTension(due));
            answers("tension()", due, tension(due), ShawlKnitter::tension);
        }
        sentence(21, "Returns the previous tension.");
        answers("setTension(1) after 9", 9, tension(9), knitter -> knitter.setTension(1));
        answers("setTension(9) after 1", 1, tension(1), knitter -> knitter.setTension(9));
        answers("setTension(1) after 1", 1, tension(1), knitter -> knitter.setTension(1));
        sentence(21, "Throws `IllegalArgumentException` if tension is out of range");
        answers("setTension(1)", 3, NEW, knitter -> knitter.setTension(1));
        answers("setTension(9)", 3, NEW, knitter -> knitter.setTension(9));
        for (int tension : new int[] {0, -1, 10, Integer.MIN_VALUE, Integer.MAX_VALUE}) {
            refuses("setTension(" + tension + ")", BAD_ARGUMENT, NEW, knitter -> knitter.setTension(tension));
        }
    }

    private static void addPatternRow() {
        sentence(22, "Adds a row to the end of the pattern.");
        int[] masks = {0x10, 0x0F, 0x81, 0, 0xFF, 0x3C};
        String pattern = "00001000 11110000 10000001 00000000 11111111 00111100 ";
        for (int count = 1; count <= 6; count++) {
            answers("the pattern after " + count + " rows", pattern.substring(0, 9 * count),
                    rows(Arrays.copyOf(masks, count)), View::ofPattern);
        }
        sentence(22, "- `mask`: the row as a bit mask, 0 to 255; bit k is the column k");
        for (int mask = 0; mask <= 255; mask++) {
            int row = mask;
            answers("the row " + row, Integer.toBinaryString(256 | row), rows(row), YarnAndPatternEdges::firstRow);
        }
        sentence(22, "Throws `IllegalArgumentException` if mask is out of range");
        answers("addPatternRow(0)", 1, NEW, knitter -> knitter.addPatternRow(0));
        answers("addPatternRow(255)", 1, NEW, knitter -> knitter.addPatternRow(255));
        Setup full = rows(1, 2, 3, 4, 5, 6);
        for (int mask : new int[] {-1, 256, Integer.MIN_VALUE, Integer.MAX_VALUE}) {
            refuses("addPatternRow(" + mask + ")", BAD_ARGUMENT, NEW, knitter -> knitter.addPatternRow(mask));
            refuses("addPatternRow(" + mask + ") to six", BAD_ARGUMENT, full, knitter -> knitter.addPatternRow(mask));
        }
        sentence(22, "Returns the number of rows of the pattern after the call.");
        answers("addPatternRow(0) to five", 6, rows(0, 0, 0, 0, 0), knitter -> knitter.addPatternRow(0));
        sentence(22, "Throws `UnsupportedOperationException` if the call is rejected with the reason PATTERN_LIMIT");
        answers("addPatternRow(9) to five", 6, rows(1, 2, 3, 4, 5), knitter -> knitter.addPatternRow(9));
        rejects("addPatternRow(9) to six", ShawlKnitter.PATTERN_LIMIT, 6, full, knitter -> knitter.addPatternRow(9));
        answers("addPatternRow(9) after clearPattern()", 1, and(full, ShawlKnitter::clearPattern),
                knitter -> knitter.addPatternRow(9));
    }

    /** The first row with a 1 ahead, the column 7 first. */
    private static String firstRow(ShawlKnitter knitter) {
        StringBuilder text = new StringBuilder("1");
        for (int column = 7; column >= 0; column--) {
            text.append(knitter.isKnit(0, column) ? '1' : '0');
        }
        return text.toString();
    }

    private static void clearPattern() {
        sentence(23, "Removes all rows of the pattern.");
        Setup full = rows(1, 2, 3, 4, 5, 6);
        answers("patternRows()", 0, and(full, ShawlKnitter::clearPattern), ShawlKnitter::patternRows);
        refuses("isKnit(0, 0)", NO_INDEX, and(full, ShawlKnitter::clearPattern), knitter -> knitter.isKnit(0, 0));
        sentence(23, "Returns the number of rows that are removed.");
        answers("clearPattern() without rows", 0, NEW, ShawlKnitter::clearPattern);
        answers("clearPattern() with one row", 1, rows(0), ShawlKnitter::clearPattern);
        answers("clearPattern() with six rows", 6, full, ShawlKnitter::clearPattern);
        answers("clearPattern() again", 0, and(full, ShawlKnitter::clearPattern), ShawlKnitter::clearPattern);
    }

    private static void yarnIn() {
        feedersAre(24, "yarnIn", NEW, 0, ShawlKnitter::yarnIn);
        feedersAre(24, "yarnIn full feeders", and(yarn(0, 200), yarn(1, 200), yarn(2, 200), yarn(3, 200)), 200,
                ShawlKnitter::yarnIn);
        sentence(24, "Returns the units of yarn.");
        answers("yarnIn(3) after the last unit", 0, and(bed(0, 0), yarn(3, 3), feeder(3), courses(1)),
                knitter -> knitter.yarnIn(3));
    }

    private static void answersAtFirst() {
        sentence(25, "Returns the index of the feeder.");
        answers("activeFeeder() at first", 0, NEW, ShawlKnitter::activeFeeder);
        answers("activeFeeder() of the last one", 3, feeder(3), ShawlKnitter::activeFeeder);
        sentence(26, "Returns the tension.");
        answers("tension() at first", 3, NEW, ShawlKnitter::tension);
        sentence(27, "Returns the number of rows.");
        answers("patternRows() at first", 0, NEW, ShawlKnitter::patternRows);
        answers("patternRows() of six", 6, rows(1, 2, 3, 4, 5, 6), ShawlKnitter::patternRows);
        answers("patternRows() after castOff()", 1, and(rows(1), bed(0, 0), ShawlKnitter::castOff),
                ShawlKnitter::patternRows);
    }

    private static void isKnit() {
        sentence(28, "- `row`: the row of the pattern, from 0");
        Setup full = rows(1, 2, 4, 8, 16, 32);
        for (int row = 0; row < 6; row++) {
            for (int column = 0; column < 8; column++) {
                int r = row;
                int c = column;
                answers("isKnit(" + r + ", " + c + ")", r == c, full, knitter -> knitter.isKnit(r, c));
            }
        }
        sentence(28, "- `column`: the column, 0 to 7");
        indexesAre(8, "isKnit in a row of all", rows(255), true, (knitter, column) -> knitter.isKnit(0, column));
        indexesAre(8, "isKnit in a row of none", rows(0), false, (knitter, column) -> knitter.isKnit(0, column));
        sentence(28, "Throws `IndexOutOfBoundsException` if there is no such row or column");
        for (int count = 1; count <= 6; count++) {
            int rows = count;
            Setup setup = knitter -> {
                for (int row = 0; row < rows; row++) {
                    knitter.addPatternRow(255);
                }
            };
            boundsAre(rows, NO_INDEX, "isKnit in the row", setup, true, (knitter, row) -> knitter.isKnit(row, 7));
        }
        boundsAre(8, NO_INDEX, "isKnit in the column", full, true,
                (knitter, column) -> knitter.isKnit(column == 0 ? 0 : 5, column) || column == 7);
        refuses("isKnit(0, 0) without rows", NO_INDEX, NEW, knitter -> knitter.isKnit(0, 0));
        refuses("isKnit(0, 0) after clearPattern()", NO_INDEX, and(full, ShawlKnitter::clearPattern),
                knitter -> knitter.isKnit(0, 0));
        refuses("isKnit(6, 8)", NO_INDEX, full, knitter -> knitter.isKnit(6, 8));
        refuses("isKnit(-1, -1)", NO_INDEX, full, knitter -> knitter.isKnit(-1, -1));
    }
}
