import java.util.NoSuchElementException;

/** A controller for a knitting machine that knits shawls. */
public final class ShawlKnitter {
    public static final int IN_WORK = 1;
    public static final int NOT_IN_WORK = 2;
    public static final int NO_LOOPS = 3;
    public static final int HAS_LOOPS = 4;
    public static final int ON_HOLD = 5;
    public static final int NOT_ON_HOLD = 6;
    public static final int BED_END = 7;
    public static final int NO_PARTNER = 8;
    public static final int LOOP_LIMIT = 9;
    public static final int NO_YARN = 10;
    public static final int YARN_LIMIT = 11;
    public static final int PATTERN_LIMIT = 12;
    public static final int COURSE_LIMIT = 13;
    public static final int NOTHING_TO_KNIT = 14;
    public static final int COMMAND_REJECTED = 15;

    private static final int NEEDLES = 24;
    private static final int MAX_LOOPS = 3;
    private static final int DROP_AGE = 6;
    private static final int FEEDERS = 4;
    private static final int MAX_YARN = 200;
    private static final int MAX_UNITS = 99;
    private static final int FIRST_TENSION = 3;
    private static final int MAX_TENSION = 9;
    private static final int MAX_ROWS = 6;
    private static final int COLUMNS = 8;
    private static final int ALL_KNIT = 255;
    private static final int MAX_COURSES = 30;
    private static final int MAX_COURSES_AT_ONCE = 10;
    private static final int MAX_CHANGES = 8;
    private static final int MAX_INPUT = 60;
    private static final int FIRST_CODE = 32;
    private static final int LAST_CODE = 126;

    /** In place of a reason: the call is not rejected. */
    private static final int ACCEPTED = 0;
    /** In place of an index, a number or an offset: there is none. */
    private static final int NONE = -1;

    // The orders bear the letters of the command language, so that a method and its command go one way.
    private static final int CAST_ON = 'c';
    private static final int CAST_OFF = 'x';
    private static final int HOLD = 'h';
    private static final int RELEASE = 'r';
    private static final int DROP = 'd';
    private static final int PICK_UP = 'u';
    private static final int TO_LEFT = 'l';
    private static final int TO_RIGHT = 'g';
    private static final int ADD_YARN = 'y';
    private static final int SELECT_FEEDER = 'f';
    private static final int SET_TENSION = 't';
    private static final int ADD_ROW = 'p';
    private static final int CLEAR_ROWS = 'q';
    private static final int KNIT = 'k';

    private final Machine now;
    private final Machine trial;
    private final Machine snapshot;
    private final History history;
    private final Commands input;
    private final StringBuilder output;
    private boolean snapshotSaved;
    private int latestSyntaxError;
    private int latestReason;
    private int latestDetail;
    private int latestCause;

    public ShawlKnitter() {
        Bed ahead = new Bed();
        now = new Machine(ahead);
        trial = new Machine(ahead);
        snapshot = new Machine(ahead);
        history = new History(ahead);
        input = new Commands();
        output = new StringBuilder();
        snapshotSaved = false;
        latestSyntaxError = NONE;
        latestReason = ACCEPTED;
        latestDetail = 0;
        latestCause = ACCEPTED;
    }

    // ---- needles

    public int castOn(int first, int last)
            throws IndexOutOfBoundsException, IllegalArgumentException, UnsupportedOperationException {
        requireNeedle(first);
        requireNeedle(last);
        if (first > last) {
            throw new IllegalArgumentException("the first needle is greater than the last one");
        }
        return change(CAST_ON, first, last);
    }

    public int castOff() throws UnsupportedOperationException {
        return change(CAST_OFF, 0, 0);
    }

    public int hold(int needle) throws IndexOutOfBoundsException, UnsupportedOperationException {
        requireNeedle(needle);
        return change(HOLD, needle, 0);
    }

    public int release(int needle) throws IndexOutOfBoundsException, UnsupportedOperationException {
        requireNeedle(needle);
        return change(RELEASE, needle, 0);
    }

    public int dropStitch(int needle) throws IndexOutOfBoundsException, UnsupportedOperationException {
        requireNeedle(needle);
        return change(DROP, needle, 0);
    }

    public int pickUp(int needle) throws IndexOutOfBoundsException, UnsupportedOperationException {
        requireNeedle(needle);
        return change(PICK_UP, needle, 0);
    }

    public int transfer(int needle, boolean toRight)
            throws IndexOutOfBoundsException, UnsupportedOperationException {
        requireNeedle(needle);
        return change(toRight ? TO_RIGHT : TO_LEFT, needle, 0);
    }

    public boolean isInWork(int needle) throws IndexOutOfBoundsException {
        requireNeedle(needle);
        return now.bed.works(needle);
    }

    public boolean isOnHold(int needle) throws IndexOutOfBoundsException {
        requireNeedle(needle);
        return now.bed.isHeld(needle);
    }

    public int loopsOn(int needle) throws IndexOutOfBoundsException {
        requireNeedle(needle);
        return now.bed.loops[needle];
    }

    public int ageOn(int needle) throws IndexOutOfBoundsException, NoSuchElementException {
        requireNeedle(needle);
        if (now.bed.loops[needle] == 0) {
            throw new NoSuchElementException("the needle has no loops");
        }
        return now.bed.ages[needle];
    }

    public int needlesInWork() {
        return now.bed.countInWork();
    }

    public int needlesOnHold() {
        return now.bed.countHeld();
    }

    public int loopCount() {
        return now.bed.countLoops();
    }

    public int longestRun() {
        return now.bed.runByWalking();
    }

    public int longestRunByMask() {
        return now.bed.runByShifting();
    }

    public int nextDropped(int needle) throws IndexOutOfBoundsException, NoSuchElementException {
        requireNeedle(needle);
        int dropped = now.bed.firstEmptyFrom(needle);
        if (dropped == NONE) {
            throw new NoSuchElementException("no needle from here on is in work without loops");
        }
        return dropped;
    }

    // ---- yarn, tension, pattern

    public int addYarn(int feeder, int units)
            throws IndexOutOfBoundsException, IllegalArgumentException, UnsupportedOperationException {
        requireFeeder(feeder);
        if (!areUnits(units)) {
            throw new IllegalArgumentException("the units of yarn are out of range");
        }
        return change(ADD_YARN, feeder, units);
    }

    public int selectFeeder(int feeder) throws IndexOutOfBoundsException {
        requireFeeder(feeder);
        return change(SELECT_FEEDER, feeder, 0);
    }

    public int setTension(int tension) throws IllegalArgumentException {
        if (!isTension(tension)) {
            throw new IllegalArgumentException("the tension is out of range");
        }
        return change(SET_TENSION, tension, 0);
    }

    public int addPatternRow(int mask) throws IllegalArgumentException, UnsupportedOperationException {
        if (mask < 0 || mask > ALL_KNIT) {
            throw new IllegalArgumentException("the mask is out of range");
        }
        return change(ADD_ROW, mask, 0);
    }

    public int clearPattern() {
        return change(CLEAR_ROWS, 0, 0);
    }

    public int yarnIn(int feeder) throws IndexOutOfBoundsException {
        requireFeeder(feeder);
        return now.yarn[feeder];
    }

    public int activeFeeder() {
        return now.active;
    }

    public int tension() {
        return now.tension;
    }

    public int patternRows() {
        return now.rows;
    }

    public boolean isKnit(int row, int column) throws IndexOutOfBoundsException {
        if (row < 0 || row >= now.rows || column < 0 || column >= COLUMNS) {
            throw new IndexOutOfBoundsException("the pattern has no such row or column");
        }
        return hasBit(now.pattern[row], column);
    }

    // ---- knitting

    public int knit(int courses) throws IllegalArgumentException, UnsupportedOperationException {
        requireCourses(courses);
        return change(KNIT, courses, 0);
    }

    public boolean willKnit(int needle) throws IndexOutOfBoundsException {
        requireNeedle(needle);
        return now.bed.knits(needle, now.nextRow());
    }

    public int nextWidth() {
        return now.bed.widthByNeedles(now.nextRow());
    }

    public int nextWidthByMask() {
        return now.bed.widthByMasks(now.nextRow());
    }

    public int stitchesIn(int courses) throws IllegalArgumentException {
        requireCourses(courses);
        return now.stitchesAhead(courses);
    }

    public int dropsIn(int courses) throws IllegalArgumentException {
        requireCourses(courses);
        return now.dropsAhead(courses);
    }

    public int coursesPossible() {
        return now.coursesAhead(MAX_COURSES);
    }

    // ---- courses

    public int courseCount() {
        return now.courses.count;
    }

    public int widthOf(int course) throws IndexOutOfBoundsException {
        requireCourse(course);
        return now.courses.widths[course];
    }

    public int yarnOf(int course) throws IndexOutOfBoundsException {
        requireCourse(course);
        return now.courses.yarns[course];
    }

    public int feederOf(int course) throws IndexOutOfBoundsException {
        requireCourse(course);
        return now.courses.feeders[course];
    }

    public int dropsOf(int course) throws IndexOutOfBoundsException {
        requireCourse(course);
        return now.courses.drops[course];
    }

    public int courseByWidth(int position) throws NoSuchElementException {
        int course = now.courses.courseAt(position);
        if (course == NONE) {
            throw new NoSuchElementException("no course has this position");
        }
        return course;
    }

    public int feederByYarn(int position) throws NoSuchElementException {
        int feeder = now.feederAt(position);
        if (feeder == NONE) {
            throw new NoSuchElementException("no feeder has this position");
        }
        return feeder;
    }

    // ---- totals

    public int stitchCount() {
        return now.courses.countStitches();
    }

    public int finishedShawls() {
        return now.finished;
    }

    public int yarnAdded() {
        return now.added;
    }

    public int yarnUsed() {
        return now.used;
    }

    public int droppedLoops() {
        return now.dropped;
    }

    public double meanWidth() throws ArithmeticException {
        int count = now.courses.count;
        if (count == 0) {
            throw new ArithmeticException("there are no courses");
        }
        return (double) now.courses.countStitches() / (double) count;
    }

    public float droppedShare() throws ArithmeticException {
        int inWork = now.bed.countInWork();
        if (inWork == 0) {
            throw new ArithmeticException("no needle is in work");
        }
        return (float) now.bed.countEmpty() / (float) inWork;
    }

    public boolean isConsistent() {
        int row = now.nextRow();
        return now.bed.runByWalking() == now.bed.runByShifting()
                && now.bed.widthByNeedles(row) == now.bed.widthByMasks(row)
                && now.added == now.yarnInFeeders() + now.used
                && now.bed.isClearOutOfWork();
    }

    // ---- text output

    public int writeBed() {
        output.setLength(0);
        for (int needle = 0; needle < NEEDLES; needle++) {
            output.append(now.bed.sign(needle));
        }
        return output.length();
    }

    public int writeCourse(int course) throws IndexOutOfBoundsException {
        requireCourse(course);
        Courses courses = now.courses;
        output.setLength(0);
        output.append(course).append(':').append(courses.widths[course]);
        output.append('f').append(courses.feeders[course]);
        output.append('y').append(courses.yarns[course]);
        if (courses.drops[course] > 0) {
            output.append('!').append(courses.drops[course]);
        }
        return output.length();
    }

    public char outputAt(int index) throws IndexOutOfBoundsException {
        if (index < 0 || index >= output.length()) {
            throw new IndexOutOfBoundsException("the output has no character at this index");
        }
        return output.charAt(index);
    }

    // ---- commands

    public int appendInput(char character) throws IllegalArgumentException, IllegalStateException {
        if (character < FIRST_CODE || character > LAST_CODE) {
            throw new IllegalArgumentException("the character is out of range");
        }
        if (input.text.length() >= MAX_INPUT) {
            throw new IllegalStateException("the input is full");
        }
        input.text.append(character);
        return input.text.length();
    }

    public int execute()
            throws IllegalArgumentException, IllegalStateException, UnsupportedOperationException {
        boolean wellFormed = input.read();
        input.text.setLength(0);
        if (!wellFormed) {
            latestSyntaxError = input.at;
            throw new IllegalArgumentException("the input has a syntax error");
        }
        trial.copyFrom(now);
        for (int index = 0; index < input.count; index++) {
            tryCommand(index);
        }
        history.push(now);
        now.copyFrom(trial);
        return input.count;
    }

    public int syntaxErrorOffset() throws NoSuchElementException {
        if (latestSyntaxError == NONE) {
            throw new NoSuchElementException("there was no syntax error");
        }
        return latestSyntaxError;
    }

    // ---- rejections and history

    public int rejectionReason() throws NoSuchElementException {
        requireRejection();
        return latestReason;
    }

    public int rejectionDetail() throws NoSuchElementException {
        requireRejection();
        return latestDetail;
    }

    public int causeReason() throws NoSuchElementException {
        if (latestReason != COMMAND_REJECTED) {
            throw new NoSuchElementException("the latest rejection is not that of a command");
        }
        return latestCause;
    }

    public int undo() throws IllegalStateException {
        if (history.count == 0) {
            throw new IllegalStateException("there is no change to undo");
        }
        history.popInto(now);
        return history.count;
    }

    public int saveSnapshot() {
        snapshot.copyFrom(now);
        snapshotSaved = true;
        return now.courses.count;
    }

    public int restoreSnapshot() throws IllegalStateException {
        if (!snapshotSaved) {
            throw new IllegalStateException("there is no snapshot");
        }
        now.copyFrom(snapshot);
        history.clear();
        return now.courses.count;
    }

    // ---- what the calls have in common

    private int change(int order, int first, int second) {
        int reason = now.refusalOf(order, first, second);
        if (reason != ACCEPTED) {
            reject(reason, now.refusedDetail, ACCEPTED);
        }
        history.push(now);
        return now.perform(order, first, second);
    }

    private void tryCommand(int index) {
        int order = input.orders[index];
        int first = input.firsts[index];
        int second = input.seconds[index];
        if (!fits(order, first, second)) {
            throw new IllegalStateException("a command has an argument that its method does not accept");
        }
        int reason = trial.refusalOf(order, first, second);
        if (reason != ACCEPTED) {
            reject(COMMAND_REJECTED, index, reason);
        }
        trial.perform(order, first, second);
    }

    private void reject(int reason, int detail, int cause) {
        latestReason = reason;
        latestDetail = detail;
        latestCause = cause;
        throw new UnsupportedOperationException("the call is rejected");
    }

    private void requireRejection() {
        if (latestReason == ACCEPTED) {
            throw new NoSuchElementException("no call was rejected");
        }
    }

    private void requireCourse(int course) {
        if (course < 0 || course >= now.courses.count) {
            throw new IndexOutOfBoundsException("there is no such course");
        }
    }

    private static void requireNeedle(int needle) {
        if (!isNeedle(needle)) {
            throw new IndexOutOfBoundsException("there is no such needle");
        }
    }

    private static void requireFeeder(int feeder) {
        if (!isFeeder(feeder)) {
            throw new IndexOutOfBoundsException("there is no such feeder");
        }
    }

    private static void requireCourses(int courses) {
        if (!areCourses(courses)) {
            throw new IllegalArgumentException("the number of courses is out of range");
        }
    }

    /** Tells whether the method of an order accepts these arguments. */
    private static boolean fits(int order, int first, int second) {
        switch (order) {
            case CAST_ON:
                return isNeedle(first) && isNeedle(second) && first <= second;
            case HOLD:
            case RELEASE:
            case DROP:
            case PICK_UP:
            case TO_LEFT:
            case TO_RIGHT:
                return isNeedle(first);
            case ADD_YARN:
                return isFeeder(first) && areUnits(second);
            case SELECT_FEEDER:
                return isFeeder(first);
            case SET_TENSION:
                return isTension(first);
            case KNIT:
                return areCourses(first);
            default:
                // The other commands have no number, or eight digits that are always a mask.
                return true;
        }
    }

    private static boolean isNeedle(int needle) {
        return needle >= 0 && needle < NEEDLES;
    }

    private static boolean isFeeder(int feeder) {
        return feeder >= 0 && feeder < FEEDERS;
    }

    private static boolean areUnits(int units) {
        return units >= 1 && units <= MAX_UNITS;
    }

    private static boolean isTension(int tension) {
        return tension >= 1 && tension <= MAX_TENSION;
    }

    private static boolean areCourses(int courses) {
        return courses >= 1 && courses <= MAX_COURSES_AT_ONCE;
    }

    private static boolean hasBit(int mask, int bit) {
        return (mask >> bit & 1) == 1;
    }

    /** The needles; a row of the pattern comes as the bit mask of its columns. */
    private static final class Bed {
        final int[] loops;
        final int[] ages;
        private int workMask;
        private int holdMask;

        Bed() {
            loops = new int[NEEDLES];
            ages = new int[NEEDLES];
            workMask = 0;
            holdMask = 0;
        }

        void copyFrom(Bed other) {
            System.arraycopy(other.loops, 0, loops, 0, NEEDLES);
            System.arraycopy(other.ages, 0, ages, 0, NEEDLES);
            workMask = other.workMask;
            holdMask = other.holdMask;
        }

        boolean works(int needle) {
            return hasBit(workMask, needle);
        }

        boolean isHeld(int needle) {
            return hasBit(holdMask, needle);
        }

        int countInWork() {
            return Integer.bitCount(workMask);
        }

        int countHeld() {
            return Integer.bitCount(holdMask);
        }

        int countLoops() {
            int count = 0;
            for (int needle = 0; needle < NEEDLES; needle++) {
                count += loops[needle];
            }
            return count;
        }

        int countEmpty() {
            return Integer.bitCount(workMask & ~loopMask());
        }

        private int loopMask() {
            int mask = 0;
            for (int needle = 0; needle < NEEDLES; needle++) {
                if (loops[needle] > 0) {
                    mask |= 1 << needle;
                }
            }
            return mask;
        }

        int firstInWork(int first, int last) {
            for (int needle = first; needle <= last; needle++) {
                if (works(needle)) {
                    return needle;
                }
            }
            return NONE;
        }

        int firstEmptyFrom(int first) {
            for (int needle = first; needle < NEEDLES; needle++) {
                if (works(needle) && loops[needle] == 0) {
                    return needle;
                }
            }
            return NONE;
        }

        int runByWalking() {
            int longest = 0;
            int run = 0;
            for (int needle = 0; needle < NEEDLES; needle++) {
                run = loops[needle] > 0 ? run + 1 : 0;
                longest = Math.max(longest, run);
            }
            return longest;
        }

        int runByShifting() {
            // Each step takes one needle off every run, so the longest run is the number of steps to 0.
            int mask = loopMask();
            for (int steps = 0; steps < NEEDLES; steps++) {
                if (mask == 0) {
                    return steps;
                }
                mask &= mask << 1;
            }
            return NEEDLES;
        }

        boolean knits(int needle, int row) {
            return loops[needle] > 0 && hasBit(workMask & ~holdMask, needle) && hasBit(row, needle % COLUMNS);
        }

        int widthByNeedles(int row) {
            int width = 0;
            for (int needle = 0; needle < NEEDLES; needle++) {
                if (knits(needle, row)) {
                    width++;
                }
            }
            return width;
        }

        int widthByMasks(int row) {
            int knitMask = 0;
            for (int shift = 0; shift < NEEDLES; shift += COLUMNS) {
                knitMask |= row << shift;
            }
            return Integer.bitCount(workMask & ~holdMask & loopMask() & knitMask);
        }

        boolean isClearOutOfWork() {
            return ((loopMask() | holdMask) & ~workMask) == 0;
        }

        char sign(int needle) {
            if (!works(needle)) {
                return '.';
            }
            if (loops[needle] == 0) {
                return isHeld(needle) ? 'h' : 'o';
            }
            return (char) ((isHeld(needle) ? 'a' : '1') + loops[needle] - 1);
        }

        int putInWork(int first, int last) {
            for (int needle = first; needle <= last; needle++) {
                workMask |= 1 << needle;
                putOneLoop(needle);
            }
            return countInWork();
        }

        void putOneLoop(int needle) {
            loops[needle] = 1;
            ages[needle] = 0;
        }

        /** Takes the loops off a needle, and returns how many they were. */
        int takeLoops(int needle) {
            int taken = loops[needle];
            loops[needle] = 0;
            ages[needle] = 0;
            return taken;
        }

        int takeOutOfWork(int needle) {
            workMask &= ~(1 << needle);
            holdMask &= ~(1 << needle);
            return takeLoops(needle);
        }

        int takeAllOutOfWork() {
            int taken = 0;
            for (int needle = 0; needle < NEEDLES; needle++) {
                taken += takeOutOfWork(needle);
            }
            return taken;
        }

        int putOnHold(int needle) {
            holdMask |= 1 << needle;
            return countHeld();
        }

        int takeOffHold(int needle) {
            holdMask &= ~(1 << needle);
            return countHeld();
        }

        int moveLoops(int from, int to) {
            // A needle without loops has the age 0 here, so the greater age is that of the loops moved to it.
            ages[to] = Math.max(ages[from], ages[to]);
            int moved = takeOutOfWork(from);
            loops[to] += moved;
            return loops[to];
        }

        /** Knits one course, and returns how many loops drop at its end. */
        int passCourse(int row) {
            int dropped = 0;
            for (int needle = 0; needle < NEEDLES; needle++) {
                if (knits(needle, row)) {
                    putOneLoop(needle);
                } else if (loops[needle] > 0) {
                    dropped += growOlder(needle);
                }
            }
            return dropped;
        }

        private int growOlder(int needle) {
            ages[needle]++;
            return ages[needle] >= DROP_AGE ? takeLoops(needle) : 0;
        }
    }

    /** The courses of the shawl that is being knit. */
    private static final class Courses {
        final int[] widths;
        final int[] yarns;
        final int[] feeders;
        final int[] drops;
        int count;

        Courses() {
            widths = new int[MAX_COURSES];
            yarns = new int[MAX_COURSES];
            feeders = new int[MAX_COURSES];
            drops = new int[MAX_COURSES];
            count = 0;
        }

        void copyFrom(Courses other) {
            System.arraycopy(other.widths, 0, widths, 0, MAX_COURSES);
            System.arraycopy(other.yarns, 0, yarns, 0, MAX_COURSES);
            System.arraycopy(other.feeders, 0, feeders, 0, MAX_COURSES);
            System.arraycopy(other.drops, 0, drops, 0, MAX_COURSES);
            count = other.count;
        }

        void add(int width, int yarn, int feeder, int dropped) {
            if (count >= MAX_COURSES) {
                return;
            }
            widths[count] = width;
            yarns[count] = yarn;
            feeders[count] = feeder;
            drops[count] = dropped;
            count++;
        }

        int countStitches() {
            int stitches = 0;
            for (int course = 0; course < count; course++) {
                stitches += widths[course];
            }
            return stitches;
        }

        /** Returns the course at a position of the order of widths, or NONE. */
        int courseAt(int position) {
            for (int course = 0; course < count; course++) {
                if (positionOf(course) == position) {
                    return course;
                }
            }
            return NONE;
        }

        private int positionOf(int course) {
            int position = 0;
            for (int other = 0; other < count; other++) {
                if (comesBefore(other, course)) {
                    position++;
                }
            }
            return position;
        }

        private boolean comesBefore(int course, int other) {
            if (widths[course] != widths[other]) {
                return widths[course] > widths[other];
            }
            if (drops[course] != drops[other]) {
                return drops[course] < drops[other];
            }
            return course < other;
        }
    }

    /** All that undo and the snapshot cover. */
    private static final class Machine {
        final Bed bed;
        final Courses courses;
        final int[] yarn;
        final int[] pattern;
        int active;
        int tension;
        int rows;
        int finished;
        int added;
        int used;
        int dropped;
        /** The detail of the latest refusal; no part of the data. */
        int refusedDetail;
        private int refusedReason;
        /** A bed for forecasts, which all machines of an object share to keep the object small. */
        private final Bed ahead;

        Machine(Bed ahead) {
            this.ahead = ahead;
            bed = new Bed();
            courses = new Courses();
            yarn = new int[FEEDERS];
            pattern = new int[MAX_ROWS];
            active = 0;
            tension = FIRST_TENSION;
            rows = 0;
            finished = 0;
            added = 0;
            used = 0;
            dropped = 0;
            refusedDetail = 0;
            refusedReason = ACCEPTED;
        }

        void copyFrom(Machine other) {
            bed.copyFrom(other.bed);
            courses.copyFrom(other.courses);
            System.arraycopy(other.yarn, 0, yarn, 0, FEEDERS);
            System.arraycopy(other.pattern, 0, pattern, 0, MAX_ROWS);
            active = other.active;
            tension = other.tension;
            rows = other.rows;
            finished = other.finished;
            added = other.added;
            used = other.used;
            dropped = other.dropped;
        }

        int nextRow() {
            return rowOf(courses.count);
        }

        private int rowOf(int course) {
            return rows == 0 ? ALL_KNIT : pattern[course % rows];
        }

        int yarnInFeeders() {
            int units = 0;
            for (int feeder = 0; feeder < FEEDERS; feeder++) {
                units += yarn[feeder];
            }
            return units;
        }

        /** Returns the feeder at a position of the order of yarn, or NONE. */
        int feederAt(int position) {
            for (int feeder = 0; feeder < FEEDERS; feeder++) {
                if (positionOf(feeder) == position) {
                    return feeder;
                }
            }
            return NONE;
        }

        private int positionOf(int feeder) {
            int position = 0;
            for (int other = 0; other < FEEDERS; other++) {
                if (yarn[other] > yarn[feeder] || yarn[other] == yarn[feeder] && other < feeder) {
                    position++;
                }
            }
            return position;
        }

        int stitchesAhead(int wanted) {
            ahead.copyFrom(bed);
            int stitches = 0;
            for (int step = 0; step < wanted; step++) {
                int row = rowOf(courses.count + step);
                stitches += ahead.widthByNeedles(row);
                ahead.passCourse(row);
            }
            return stitches;
        }

        int dropsAhead(int wanted) {
            ahead.copyFrom(bed);
            int drops = 0;
            for (int step = 0; step < wanted; step++) {
                drops += ahead.passCourse(rowOf(courses.count + step));
            }
            return drops;
        }

        /** Returns how many of the wanted courses can be knit; if not all, the refusal tells why. */
        int coursesAhead(int wanted) {
            ahead.copyFrom(bed);
            int yarnLeft = yarn[active];
            for (int step = 0; step < wanted; step++) {
                int course = courses.count + step;
                int row = rowOf(course);
                int needed = ahead.widthByNeedles(row) * tension;
                if (refusalOfCourse(course, needed, yarnLeft) != ACCEPTED) {
                    return step;
                }
                yarnLeft -= needed;
                ahead.passCourse(row);
            }
            return wanted;
        }

        private int refusalOfCourse(int course, int needed, int yarnLeft) {
            if (course >= MAX_COURSES) {
                return refuse(COURSE_LIMIT, MAX_COURSES);
            }
            if (needed == 0) {
                return refuse(NOTHING_TO_KNIT, course);
            }
            return needed > yarnLeft ? refuse(NO_YARN, needed) : ACCEPTED;
        }

        private int refuse(int reason, int detail) {
            refusedReason = reason;
            refusedDetail = detail;
            return reason;
        }

        /** Returns the first reason that applies to an order, or ACCEPTED; the arguments are in range. */
        int refusalOf(int order, int first, int second) {
            switch (order) {
                case CAST_ON:
                    return refusalOfCastOn(first, second);
                case CAST_OFF:
                    return bed.countLoops() == 0 ? refuse(NO_LOOPS, bed.countInWork()) : ACCEPTED;
                case HOLD:
                    return refusalOfHold(first);
                case RELEASE:
                    return bed.isHeld(first) ? ACCEPTED : refuse(NOT_ON_HOLD, first);
                case DROP:
                    return refusalOfTaking(first);
                case PICK_UP:
                    return refusalOfPickUp(first);
                case TO_LEFT:
                    return refusalOfTransfer(first, first - 1);
                case TO_RIGHT:
                    return refusalOfTransfer(first, first + 1);
                case ADD_YARN:
                    return yarn[first] + second > MAX_YARN ? refuse(YARN_LIMIT, yarn[first]) : ACCEPTED;
                case ADD_ROW:
                    return rows >= MAX_ROWS ? refuse(PATTERN_LIMIT, MAX_ROWS) : ACCEPTED;
                case KNIT:
                    return coursesAhead(first) < first ? refusedReason : ACCEPTED;
                default:
                    // The other orders are never rejected.
                    return ACCEPTED;
            }
        }

        private int refusalOfCastOn(int first, int last) {
            int inWork = bed.firstInWork(first, last);
            return inWork == NONE ? ACCEPTED : refuse(IN_WORK, inWork);
        }

        private int refusalOfHold(int needle) {
            if (!bed.works(needle)) {
                return refuse(NOT_IN_WORK, needle);
            }
            return bed.isHeld(needle) ? refuse(ON_HOLD, needle) : ACCEPTED;
        }

        private int refusalOfTaking(int needle) {
            if (!bed.works(needle)) {
                return refuse(NOT_IN_WORK, needle);
            }
            return bed.loops[needle] == 0 ? refuse(NO_LOOPS, bed.countInWork()) : ACCEPTED;
        }

        private int refusalOfPickUp(int needle) {
            if (!bed.works(needle)) {
                return refuse(NOT_IN_WORK, needle);
            }
            if (bed.loops[needle] > 0) {
                return refuse(HAS_LOOPS, bed.loops[needle]);
            }
            return yarn[active] < 1 ? refuse(NO_YARN, 1) : ACCEPTED;
        }

        private int refusalOfTransfer(int needle, int beside) {
            int reason = refusalOfTaking(needle);
            if (reason != ACCEPTED) {
                return reason;
            }
            if (!isNeedle(beside)) {
                return refuse(BED_END, needle);
            }
            if (!bed.works(beside)) {
                return refuse(NO_PARTNER, beside);
            }
            int together = bed.loops[needle] + bed.loops[beside];
            return together > MAX_LOOPS ? refuse(LOOP_LIMIT, together) : ACCEPTED;
        }

        /** Carries out an order that is not refused, and returns what its method returns. */
        int perform(int order, int first, int second) {
            switch (order) {
                case CAST_ON:
                    return bed.putInWork(first, second);
                case CAST_OFF:
                    return finishShawl();
                case HOLD:
                    return bed.putOnHold(first);
                case RELEASE:
                    return bed.takeOffHold(first);
                case DROP:
                    return dropFrom(first);
                case PICK_UP:
                    return pickUpOn(first);
                case TO_LEFT:
                    return bed.moveLoops(first, first - 1);
                case TO_RIGHT:
                    return bed.moveLoops(first, first + 1);
                case ADD_YARN:
                    return fill(first, second);
                case SELECT_FEEDER:
                    return activate(first);
                case SET_TENSION:
                    return tighten(first);
                case ADD_ROW:
                    return addRow(first);
                case CLEAR_ROWS:
                    return removeRows();
                case KNIT:
                    return knitCourses(first);
                default:
                    return NONE;
            }
        }

        private int finishShawl() {
            finished++;
            courses.count = 0;
            return bed.takeAllOutOfWork();
        }

        private int dropFrom(int needle) {
            int taken = bed.takeLoops(needle);
            dropped += taken;
            return taken;
        }

        private int pickUpOn(int needle) {
            bed.putOneLoop(needle);
            useYarn(1);
            return yarn[active];
        }

        private void useYarn(int units) {
            yarn[active] -= units;
            used += units;
        }

        private int fill(int feeder, int units) {
            yarn[feeder] += units;
            added += units;
            return yarn[feeder];
        }

        private int activate(int feeder) {
            int before = active;
            active = feeder;
            return before;
        }

        private int tighten(int newTension) {
            int before = tension;
            tension = newTension;
            return before;
        }

        private int addRow(int mask) {
            if (rows < MAX_ROWS) {
                pattern[rows] = mask;
                rows++;
            }
            return rows;
        }

        private int removeRows() {
            int removed = rows;
            rows = 0;
            return removed;
        }

        private int knitCourses(int wanted) {
            int stitches = 0;
            for (int step = 0; step < wanted; step++) {
                int row = nextRow();
                int width = bed.widthByNeedles(row);
                int drops = bed.passCourse(row);
                useYarn(width * tension);
                dropped += drops;
                courses.add(width, width * tension, active, drops);
                stitches += width;
            }
            return stitches;
        }
    }

    /** The machine as it was ahead of each change that can be undone, in a ring. */
    private static final class History {
        private final Machine[] states;
        private int next;
        int count;

        History(Bed ahead) {
            states = new Machine[MAX_CHANGES];
            for (int index = 0; index < MAX_CHANGES; index++) {
                states[index] = new Machine(ahead);
            }
            next = 0;
            count = 0;
        }

        void push(Machine machine) {
            states[next].copyFrom(machine);
            next = (next + 1) % MAX_CHANGES;
            count = Math.min(count + 1, MAX_CHANGES);
        }

        void popInto(Machine machine) {
            next = (next + MAX_CHANGES - 1) % MAX_CHANGES;
            count--;
            machine.copyFrom(states[next]);
        }

        void clear() {
            count = 0;
        }
    }

    /** The input, and the commands that are read from it. */
    private static final class Commands {
        private static final String LETTERS = "cxhrdulgyftpqk";

        final StringBuilder text;
        final int[] orders;
        final int[] firsts;
        final int[] seconds;
        int count;
        /** The index of the next character; after a reading that failed, the offset of the syntax error. */
        int at;

        Commands() {
            text = new StringBuilder();
            // A command takes a character at least, so there is room for all.
            orders = new int[MAX_INPUT];
            firsts = new int[MAX_INPUT];
            seconds = new int[MAX_INPUT];
            count = 0;
            at = 0;
        }

        /** Reads all commands of the text, and tells whether its syntax is right. */
        boolean read() {
            at = 0;
            count = 0;
            while (count < MAX_INPUT && readCommand(count)) {
                count++;
                if (at >= text.length()) {
                    return true;
                }
                if (!skip(';')) {
                    return false;
                }
            }
            return false;
        }

        private boolean readCommand(int index) {
            if (at >= text.length() || LETTERS.indexOf(text.charAt(at)) < 0) {
                return false;
            }
            orders[index] = text.charAt(at);
            firsts[index] = 0;
            seconds[index] = 0;
            at++;
            switch (orders[index]) {
                case CAST_OFF:
                case CLEAR_ROWS:
                    return true;
                case CAST_ON:
                    return readFirst(index, 2) && skip('-') && readSecond(index, 2);
                case ADD_YARN:
                    return readFirst(index, 1) && skip('=') && readSecond(index, 2);
                case SELECT_FEEDER:
                case SET_TENSION:
                    return readFirst(index, 1);
                case ADD_ROW:
                    return readMask(index);
                default:
                    return readFirst(index, 2);
            }
        }

        private boolean skip(char character) {
            if (at >= text.length() || text.charAt(at) != character) {
                return false;
            }
            at++;
            return true;
        }

        private boolean readFirst(int index, int mostDigits) {
            firsts[index] = readNumber(mostDigits);
            return firsts[index] != NONE;
        }

        private boolean readSecond(int index, int mostDigits) {
            seconds[index] = readNumber(mostDigits);
            return seconds[index] != NONE;
        }

        private int readNumber(int mostDigits) {
            int number = NONE;
            for (int read = 0; read < mostDigits; read++) {
                int digit = digitUpTo('9');
                if (digit == NONE) {
                    return number;
                }
                number = (read == 0 ? 0 : number * 10) + digit;
                at++;
            }
            return number;
        }

        private boolean readMask(int index) {
            for (int column = 0; column < COLUMNS; column++) {
                int digit = digitUpTo('1');
                if (digit == NONE) {
                    return false;
                }
                firsts[index] |= digit << column;
                at++;
            }
            return true;
        }

        /** Returns the value of the next character if it is a digit up to the last one named, or NONE. */
        private int digitUpTo(char last) {
            if (at >= text.length()) {
                return NONE;
            }
            char character = text.charAt(at);
            return character >= '0' && character <= last ? character - '0' : NONE;
        }
    }
}
