import java.util.ArrayDeque;
import java.util.ArrayList;
import java.util.Comparator;
import java.util.Deque;
import java.util.List;
import java.util.NoSuchElementException;
import java.util.regex.Matcher;
import java.util.regex.Pattern;

/**
 * The document told a second time, with other means than the class has: objects that are copied, exceptions that are
 * thrown from the depth, and a regular expression for the commands. RandomRunsTest compares both.
 */
final class Model {
    private static final class Needle {
        boolean inWork;
        boolean held;
        int loops;
        int age;

        Needle copy() {
            Needle copy = new Needle();
            copy.inWork = inWork;
            copy.held = held;
            copy.loops = loops;
            copy.age = age;
            return copy;
        }
    }

    private record Course(int index, int width, int feeder, int yarn, int drops) {
    }

    private static final class Data {
        final List<Needle> needles = new ArrayList<>();
        final int[] yarn = new int[4];
        final List<Integer> pattern = new ArrayList<>();
        final List<Course> courses = new ArrayList<>();
        int active = 0;
        int tension = 3;
        int finished = 0;
        int added = 0;
        int used = 0;
        int dropped = 0;

        Data copy() {
            Data copy = new Data();
            needles.forEach(needle -> copy.needles.add(needle.copy()));
            System.arraycopy(yarn, 0, copy.yarn, 0, 4);
            copy.pattern.addAll(pattern);
            copy.courses.addAll(courses);
            copy.active = active;
            copy.tension = tension;
            copy.finished = finished;
            copy.added = added;
            copy.used = used;
            copy.dropped = dropped;
            return copy;
        }
    }

    private static final class Rejected extends RuntimeException {
        private static final long serialVersionUID = 1;
        final int reason;
        final int detail;

        Rejected(int reason, int detail) {
            this.reason = reason;
            this.detail = detail;
        }
    }

    private interface Change {
        int on(Data data);
    }

    private static final String COMMAND =
            "(?:c[0-9]{1,2}-[0-9]{1,2}|[xq]|[hrdulgk][0-9]{1,2}|y[0-9]=[0-9]{1,2}|[ft][0-9]|p[01]{8})";
    private static final Pattern INPUT = Pattern.compile(COMMAND + "(?:;" + COMMAND + ")*");

    private Data data = new Data();
    private Data snapshot = null;
    private final Deque<Data> undoable = new ArrayDeque<>();
    private String input = "";
    private String output = "";
    private int offset = -1;
    private int reason = 0;
    private int detail = 0;
    private int cause = 0;

    Model() {
        for (int index = 0; index < 24; index++) {
            data.needles.add(new Needle());
        }
    }

    // ---- the changes

    int change(char order, int first, int second) {
        checkArguments(order, first, second);
        Data after = data.copy();
        int answer;
        try {
            answer = changeOf(order, first, second).on(after);
        } catch (Rejected rejected) {
            reason = rejected.reason;
            detail = rejected.detail;
            cause = 0;
            throw new UnsupportedOperationException();
        }
        become(after);
        return answer;
    }

    private void become(Data after) {
        undoable.push(data);
        if (undoable.size() > 8) {
            undoable.removeLast();
        }
        data = after;
    }

    private static void checkArguments(char order, int first, int second) {
        if ("chrdulg".indexOf(order) >= 0) {
            checkIndex(first, 24);
        }
        if (order == 'c') {
            checkIndex(second, 24);
            checkRange(second, first, 23);
        }
        if (order == 'y' || order == 'f') {
            checkIndex(first, 4);
        }
        if (order == 'y') {
            checkRange(second, 1, 99);
        }
        if (order == 't') {
            checkRange(first, 1, 9);
        }
        if (order == 'p') {
            checkRange(first, 0, 255);
        }
        if (order == 'k') {
            checkRange(first, 1, 10);
        }
    }

    private static void checkIndex(int index, int size) {
        if (index < 0 || index >= size) {
            throw new IndexOutOfBoundsException();
        }
    }

    private static void checkRange(int value, int least, int greatest) {
        if (value < least || value > greatest) {
            throw new IllegalArgumentException();
        }
    }

    private static void reject(boolean applies, int reason, int detail) {
        if (applies) {
            throw new Rejected(reason, detail);
        }
    }

    private static Change changeOf(char order, int first, int second) {
        return switch (order) {
            case 'c' -> data -> castOn(data, first, second);
            case 'x' -> Model::castOff;
            case 'h' -> data -> hold(data, first);
            case 'r' -> data -> release(data, first);
            case 'd' -> data -> dropStitch(data, first);
            case 'u' -> data -> pickUp(data, first);
            case 'l' -> data -> transfer(data, first, first - 1);
            case 'g' -> data -> transfer(data, first, first + 1);
            case 'y' -> data -> addYarn(data, first, second);
            case 'f' -> data -> {
                int before = data.active;
                data.active = first;
                return before;
            };
            case 't' -> data -> {
                int before = data.tension;
                data.tension = first;
                return before;
            };
            case 'p' -> data -> {
                reject(data.pattern.size() == 6, 12, 6);
                data.pattern.add(first);
                return data.pattern.size();
            };
            case 'q' -> data -> {
                int rows = data.pattern.size();
                data.pattern.clear();
                return rows;
            };
            default -> data -> knit(data, first);
        };
    }

    private static int castOn(Data data, int first, int last) {
        for (int index = first; index <= last; index++) {
            reject(data.needles.get(index).inWork, 1, index);
        }
        for (Needle needle : data.needles.subList(first, last + 1)) {
            needle.inWork = true;
            needle.loops = 1;
            needle.age = 0;
        }
        return working(data);
    }

    private static int working(Data data) {
        return (int) data.needles.stream().filter(needle -> needle.inWork).count();
    }

    private static int loops(Data data) {
        return data.needles.stream().mapToInt(needle -> needle.loops).sum();
    }

    private static int castOff(Data data) {
        int loops = loops(data);
        reject(loops == 0, 3, working(data));
        data.needles.replaceAll(needle -> new Needle());
        data.courses.clear();
        data.finished++;
        return loops;
    }

    private static int held(Data data) {
        return (int) data.needles.stream().filter(needle -> needle.held).count();
    }

    private static int hold(Data data, int index) {
        Needle needle = data.needles.get(index);
        reject(!needle.inWork, 2, index);
        reject(needle.held, 5, index);
        needle.held = true;
        return held(data);
    }

    private static int release(Data data, int index) {
        reject(!data.needles.get(index).held, 6, index);
        data.needles.get(index).held = false;
        return held(data);
    }

    private static int dropStitch(Data data, int index) {
        Needle needle = data.needles.get(index);
        reject(!needle.inWork, 2, index);
        reject(needle.loops == 0, 3, working(data));
        return drop(data, needle);
    }

    private static int drop(Data data, Needle needle) {
        int loops = needle.loops;
        data.dropped += loops;
        needle.loops = 0;
        return loops;
    }

    private static int pickUp(Data data, int index) {
        Needle needle = data.needles.get(index);
        reject(!needle.inWork, 2, index);
        reject(needle.loops > 0, 4, needle.loops);
        reject(data.yarn[data.active] == 0, 10, 1);
        needle.loops = 1;
        needle.age = 0;
        data.used++;
        return --data.yarn[data.active];
    }

    private static int transfer(Data data, int index, int beside) {
        Needle needle = data.needles.get(index);
        reject(!needle.inWork, 2, index);
        reject(needle.loops == 0, 3, working(data));
        reject(beside < 0 || beside > 23, 7, index);
        Needle other = data.needles.get(beside);
        reject(!other.inWork, 8, beside);
        reject(other.loops + needle.loops > 3, 9, other.loops + needle.loops);
        if (other.loops == 0 || other.age < needle.age) {
            other.age = needle.age;
        }
        other.loops += needle.loops;
        data.needles.set(index, new Needle());
        return other.loops;
    }

    private static int addYarn(Data data, int feeder, int units) {
        reject(data.yarn[feeder] + units > 200, 11, data.yarn[feeder]);
        data.added += units;
        data.yarn[feeder] += units;
        return data.yarn[feeder];
    }

    private static int knit(Data data, int courses) {
        int stitches = 0;
        for (int count = 0; count < courses; count++) {
            int course = data.courses.size();
            int width = width(data);
            reject(course == 30, 13, 30);
            reject(width == 0, 14, course);
            reject(width * data.tension > data.yarn[data.active], 10, width * data.tension);
            stitches += knitFreely(data);
        }
        return stitches;
    }

    /** Knits a course with neither a look at the yarn nor at the limits. */
    private static int knitFreely(Data data) {
        int width = width(data);
        int before = data.dropped;
        List<Needle> knitting = new ArrayList<>();
        for (int index = 0; index < 24; index++) {
            if (knits(data, index)) {
                knitting.add(data.needles.get(index));
            }
        }
        for (Needle needle : data.needles) {
            if (knitting.contains(needle)) {
                needle.loops = 1;
                needle.age = 0;
            } else if (needle.loops > 0 && ++needle.age == 6) {
                drop(data, needle);
            }
        }
        int yarn = width * data.tension;
        data.yarn[data.active] -= yarn;
        data.used += yarn;
        data.courses.add(new Course(data.courses.size(), width, data.active, yarn, data.dropped - before));
        return width;
    }

    private static boolean knits(Data data, int index) {
        Needle needle = data.needles.get(index);
        int rows = data.pattern.size();
        boolean slipped = rows > 0
                && (data.pattern.get(data.courses.size() % rows) & (1 << (index % 8))) == 0;
        return needle.inWork && !needle.held && needle.loops > 0 && !slipped;
    }

    private static int width(Data data) {
        int width = 0;
        for (int index = 0; index < 24; index++) {
            width += knits(data, index) ? 1 : 0;
        }
        return width;
    }

    // ---- the queries

    Object ask(String query, int first, int second) {
        return switch (query) {
            case "isInWork" -> needle(first).inWork;
            case "isOnHold" -> needle(first).held;
            case "loopsOn" -> needle(first).loops;
            case "ageOn" -> element(needle(first).loops > 0, needle(first).age);
            case "needlesInWork" -> working(data);
            case "needlesOnHold" -> held(data);
            case "loopCount" -> loops(data);
            case "longestRun", "longestRunByMask" -> longestRun();
            case "nextDropped" -> nextDropped(first);
            case "yarnIn" -> yarnIn(first);
            case "activeFeeder" -> data.active;
            case "tension" -> data.tension;
            case "patternRows" -> data.pattern.size();
            case "isKnit" -> isKnit(first, second);
            case "willKnit" -> needle(first) != null && knits(data, first);
            case "nextWidth", "nextWidthByMask" -> width(data);
            case "stitchesIn" -> ahead(first).courses.stream().skip(data.courses.size()).mapToInt(Course::width).sum();
            case "dropsIn" -> ahead(first).dropped - data.dropped;
            case "coursesPossible" -> coursesPossible();
            default -> askOfCourses(query, first);
        };
    }

    private Object askOfCourses(String query, int first) {
        return switch (query) {
            case "courseCount" -> data.courses.size();
            case "widthOf" -> course(first).width();
            case "yarnOf" -> course(first).yarn();
            case "feederOf" -> course(first).feeder();
            case "dropsOf" -> course(first).drops();
            case "courseByWidth" -> courseByWidth(first);
            case "feederByYarn" -> feederByYarn(first);
            case "stitchCount" -> stitches();
            case "finishedShawls" -> data.finished;
            case "yarnAdded" -> data.added;
            case "yarnUsed" -> data.used;
            case "droppedLoops" -> data.dropped;
            case "meanWidth" -> share(data.courses.size(), (double) stitches() / data.courses.size());
            case "droppedShare" -> share(working(data), (float) empty() / working(data));
            case "isConsistent" -> true;
            default -> askOfTexts(query, first);
        };
    }

    private Object askOfTexts(String query, int first) {
        return switch (query) {
            case "outputAt" -> outputAt(first);
            case "syntaxErrorOffset" -> element(offset >= 0, offset);
            case "rejectionReason" -> element(reason > 0, reason);
            case "rejectionDetail" -> element(reason > 0, detail);
            case "causeReason" -> element(reason == 15, cause);
            default -> throw new AssertionError(query);
        };
    }

    private Needle needle(int index) {
        checkIndex(index, 24);
        return data.needles.get(index);
    }

    private Course course(int index) {
        checkIndex(index, data.courses.size());
        return data.courses.get(index);
    }

    private static int element(boolean exists, int value) {
        if (!exists) {
            throw new NoSuchElementException();
        }
        return value;
    }

    private static Object share(int divisor, Object value) {
        if (divisor == 0) {
            throw new ArithmeticException();
        }
        return value;
    }

    private int longestRun() {
        StringBuilder bed = new StringBuilder();
        data.needles.forEach(needle -> bed.append(needle.loops > 0 ? '#' : ' '));
        int longest = 0;
        for (String run : bed.toString().trim().split(" +")) {
            longest = Math.max(longest, run.length());
        }
        return longest;
    }

    private int nextDropped(int first) {
        needle(first);
        for (int index = first; index < 24; index++) {
            if (needle(index).inWork && needle(index).loops == 0) {
                return index;
            }
        }
        throw new NoSuchElementException();
    }

    private int yarnIn(int feeder) {
        checkIndex(feeder, 4);
        return data.yarn[feeder];
    }

    private boolean isKnit(int row, int column) {
        checkIndex(row, data.pattern.size());
        checkIndex(column, 8);
        return (data.pattern.get(row) & (1 << column)) != 0;
    }

    private Data ahead(int courses) {
        checkRange(courses, 1, 10);
        Data ahead = data.copy();
        for (int count = 0; count < courses; count++) {
            knitFreely(ahead);
        }
        return ahead;
    }

    private int coursesPossible() {
        Data ahead = data.copy();
        int possible = 0;
        try {
            while (true) {
                knit(ahead, 1);
                possible++;
            }
        } catch (Rejected rejected) {
            return possible;
        }
    }

    private int courseByWidth(int position) {
        element(position >= 0 && position < data.courses.size(), 0);
        List<Course> sorted = new ArrayList<>(data.courses);
        sorted.sort(Comparator.comparing(Course::width).reversed().thenComparing(Course::drops)
                .thenComparing(Course::index));
        return sorted.get(position).index();
    }

    private int feederByYarn(int position) {
        element(position >= 0 && position < 4, 0);
        List<Integer> sorted = new ArrayList<>(List.of(0, 1, 2, 3));
        sorted.sort(Comparator.comparing((Integer feeder) -> -data.yarn[feeder]));
        return sorted.get(position);
    }

    private int stitches() {
        return data.courses.stream().mapToInt(Course::width).sum();
    }

    private int empty() {
        return (int) data.needles.stream().filter(needle -> needle.inWork && needle.loops == 0).count();
    }

    // ---- texts, commands and history

    int writeBed() {
        StringBuilder text = new StringBuilder();
        for (Needle needle : data.needles) {
            text.append(!needle.inWork ? '.' : (needle.held ? "habc" : "o123").charAt(needle.loops));
        }
        output = text.toString();
        return output.length();
    }

    int writeCourse(int index) {
        Course course = course(index);
        output = index + ":" + course.width() + "f" + course.feeder() + "y" + course.yarn()
                + (course.drops() > 0 ? "!" + course.drops() : "");
        return output.length();
    }

    private char outputAt(int index) {
        checkIndex(index, output.length());
        return output.charAt(index);
    }

    int appendInput(char character) {
        checkRange(character, 32, 126);
        if (input.length() == 60) {
            throw new IllegalStateException();
        }
        input += character;
        return input.length();
    }

    int execute() {
        String text = input;
        input = "";
        if (!INPUT.matcher(text).matches()) {
            offset = errorIn(text);
            throw new IllegalArgumentException();
        }
        Data after = data.copy();
        String[] commands = text.split(";");
        for (int number = 0; number < commands.length; number++) {
            try {
                perform(commands[number], after);
            } catch (IndexOutOfBoundsException | IllegalArgumentException e) {
                throw new IllegalStateException();
            } catch (Rejected rejected) {
                reason = 15;
                detail = number;
                cause = rejected.reason;
                throw new UnsupportedOperationException();
            }
        }
        become(after);
        return commands.length;
    }

    /** The longest beginning that can be gone on with is the one whose match fails at its end alone. */
    private static int errorIn(String text) {
        for (int length = 1; length <= text.length(); length++) {
            Matcher matcher = INPUT.matcher(text.substring(0, length));
            if (!matcher.matches() && !matcher.hitEnd()) {
                return length - 1;
            }
        }
        return text.length();
    }

    private static void perform(String command, Data after) {
        char order = command.charAt(0);
        String[] numbers = command.substring(1).split("[-=]");
        int first = numbers[0].isEmpty() ? 0 : Integer.parseInt(numbers[0]);
        int second = numbers.length > 1 ? Integer.parseInt(numbers[1]) : 0;
        if (order == 'p') {
            first = Integer.parseInt(new StringBuilder(numbers[0]).reverse().toString(), 2);
        }
        checkArguments(order, first, second);
        changeOf(order, first, second).on(after);
    }

    int undo() {
        if (undoable.isEmpty()) {
            throw new IllegalStateException();
        }
        data = undoable.pop();
        return undoable.size();
    }

    int saveSnapshot() {
        snapshot = data.copy();
        return data.courses.size();
    }

    int restoreSnapshot() {
        if (snapshot == null) {
            throw new IllegalStateException();
        }
        data = snapshot.copy();
        undoable.clear();
        return data.courses.size();
    }
}
