import java.util.Random;
import java.util.concurrent.Callable;

/** Runs of 512 calls, drawn from fixed seeds, each call answered by the class as by the model of the document. */
public final class RandomRunsTest {
    private static final int RUNS = 6000;
    private static final int CALLS = 512;
    private static final String[] QUERIES = {"isInWork", "isOnHold", "loopsOn", "ageOn", "needlesInWork",
        "needlesOnHold", "loopCount", "longestRun", "longestRunByMask", "nextDropped", "yarnIn", "activeFeeder",
        "tension", "patternRows", "isKnit", "willKnit", "nextWidth", "nextWidthByMask", "stitchesIn", "dropsIn",
        "coursesPossible", "courseCount", "widthOf", "yarnOf", "feederOf", "dropsOf", "courseByWidth", "feederByYarn",
        "stitchCount", "finishedShawls", "yarnAdded", "yarnUsed", "droppedLoops", "meanWidth", "droppedShare",
        "isConsistent", "outputAt", "syntaxErrorOffset", "rejectionReason", "rejectionDetail", "causeReason"};
    private static final String ORDERS = "ccchhrddduullggggyyyyfttppqkkkkkkkkkkkk";

    private final Random random;
    private final String run;
    private final ShawlKnitter knitter = new ShawlKnitter();
    private final Model model = new Model();
    private int calls = 0;

    private RandomRunsTest(int seed) {
        random = new Random(seed);
        run = "run " + seed + ", call ";
    }

    public static void main(String[] arguments) {
        Check.subject("a random run");
        for (int seed = 0; seed < RUNS; seed++) {
            RandomRunsTest test = new RandomRunsTest(seed);
            while (test.calls < CALLS) {
                test.step();
            }
        }
        Check.finish();
    }

    private void step() {
        int kind = random.nextInt(100);
        if (kind < 45) {
            change();
        } else if (kind < 80) {
            query();
        } else if (kind < 84) {
            compare("undo()", knitter::undo, model::undo);
        } else if (kind < 88) {
            write();
        } else if (kind < 90) {
            snapshot();
        } else {
            commands();
        }
    }

    private void compare(String call, Callable<?> got, Callable<?> due) {
        if (calls < CALLS) {
            calls++;
            Check.same(run + calls + ": " + call, Check.outcome(due), Check.outcome(got));
        }
    }

    private char order() {
        return random.nextInt(150) == 0 ? 'x' : ORDERS.charAt(random.nextInt(ORDERS.length()));
    }

    /** An index of a needle, mostly one in the middle, so that changes meet there. */
    private int needle() {
        int kind = random.nextInt(40);
        if (kind == 0) {
            return random.nextInt(30) - 3;
        }
        return kind < 10 ? random.nextInt(24) : 6 + random.nextInt(8);
    }

    private int near(int greatest) {
        int kind = random.nextInt(20);
        return kind == 0 ? greatest + 1 : kind == 1 ? -1 : random.nextInt(greatest + 1);
    }

    private int firstFor(char order) {
        return switch (order) {
            case 'y', 'f' -> near(3);
            case 't' -> random.nextInt(4) == 0 ? near(9) : 1 + random.nextInt(2);
            case 'p' -> random.nextInt(3) == 0 ? near(255) : 255 - (1 << random.nextInt(8));
            case 'k' -> random.nextInt(3) == 0 ? near(10) : 1 + random.nextInt(3);
            default -> needle();
        };
    }

    private int secondFor(char order, int first) {
        return switch (order) {
            case 'c' -> random.nextInt(8) == 0 ? needle() : first + random.nextInt(14);
            case 'y' -> near(99);
            default -> 0;
        };
    }

    private void change() {
        char order = order();
        int first = firstFor(order);
        int second = secondFor(order, first);
        compare(order + " " + first + " " + second, () -> changed(order, first, second),
                () -> model.change(order, first, second));
    }

    private int changed(char order, int first, int second) {
        return switch (order) {
            case 'c' -> knitter.castOn(first, second);
            case 'x' -> knitter.castOff();
            case 'h' -> knitter.hold(first);
            case 'r' -> knitter.release(first);
            case 'd' -> knitter.dropStitch(first);
            case 'u' -> knitter.pickUp(first);
            case 'l' -> knitter.transfer(first, false);
            case 'g' -> knitter.transfer(first, true);
            case 'y' -> knitter.addYarn(first, second);
            case 'f' -> knitter.selectFeeder(first);
            case 't' -> knitter.setTension(first);
            case 'p' -> knitter.addPatternRow(first);
            case 'q' -> knitter.clearPattern();
            default -> knitter.knit(first);
        };
    }

    private int firstFor(String query) {
        return switch (query) {
            case "yarnIn", "feederByYarn" -> near(3);
            case "isKnit" -> near(2);
            case "stitchesIn", "dropsIn" -> near(10);
            case "widthOf", "yarnOf", "feederOf", "dropsOf", "courseByWidth" -> near(random.nextInt(30));
            default -> needle();
        };
    }

    private void query() {
        String query = QUERIES[random.nextInt(QUERIES.length)];
        int first = firstFor(query);
        int second = near(8);
        compare(query + " " + first + " " + second, () -> asked(query, first, second),
                () -> model.ask(query, first, second));
    }

    private Object asked(String query, int first, int second) throws Exception {
        try {
            for (var method : ShawlKnitter.class.getMethods()) {
                if (method.getName().equals(query)) {
                    return switch (method.getParameterCount()) {
                        case 0 -> method.invoke(knitter);
                        case 1 -> method.invoke(knitter, first);
                        default -> method.invoke(knitter, first, second);
                    };
                }
            }
        } catch (java.lang.reflect.InvocationTargetException e) {
            throw (Exception) e.getCause();
        }
        throw new AssertionError(query);
    }

    private void write() {
        int course = near(9);
        if (random.nextBoolean()) {
            compare("writeBed()", knitter::writeBed, model::writeBed);
        } else {
            compare("writeCourse(" + course + ")", () -> knitter.writeCourse(course), () -> model.writeCourse(course));
        }
        for (int count = 0; count < 4; count++) {
            int index = near(24);
            compare("outputAt(" + index + ")", () -> knitter.outputAt(index), () -> model.ask("outputAt", index, 0));
        }
    }

    private void snapshot() {
        if (random.nextBoolean()) {
            compare("saveSnapshot()", knitter::saveSnapshot, model::saveSnapshot);
        } else {
            compare("restoreSnapshot()", knitter::restoreSnapshot, model::restoreSnapshot);
        }
    }

    private void commands() {
        StringBuilder text = new StringBuilder();
        int count = 1 + random.nextInt(6);
        for (int number = 0; number < count; number++) {
            text.append(number == 0 ? "" : ";").append(command());
        }
        if (random.nextInt(4) == 0) {
            spoil(text);
        }
        for (int index = 0; index < text.length(); index++) {
            char character = text.charAt(index);
            compare("appendInput " + (int) character, () -> knitter.appendInput(character),
                    () -> model.appendInput(character));
        }
        compare("execute() of " + text, knitter::execute, model::execute);
        for (String query : new String[] {"rejectionReason", "rejectionDetail", "causeReason", "syntaxErrorOffset"}) {
            compare(query, () -> asked(query, 0, 0), () -> model.ask(query, 0, 0));
        }
    }

    private String command() {
        char order = order();
        int first = Math.abs(firstFor(order));
        int second = Math.min(99, Math.abs(secondFor(order, first)));
        return switch (order) {
            case 'c' -> "c" + first + "-" + second;
            case 'x', 'q' -> "" + order;
            case 'y' -> "y" + first + "=" + second;
            case 't' -> "t" + first % 10;
            case 'p' -> "p" + Integer.toBinaryString(256 | first & 255).substring(1);
            default -> (order != 'f' && random.nextInt(5) == 0 && first < 10 ? order + "0" : "" + order) + first;
        };
    }

    private void spoil(StringBuilder text) {
        String signs = "chxy01;-=9 ~\u0080\u001f";
        int index = random.nextInt(text.length());
        char sign = signs.charAt(random.nextInt(signs.length()));
        switch (random.nextInt(4)) {
            case 0 -> text.setLength(index);
            case 1 -> text.setCharAt(index, sign);
            case 2 -> text.deleteCharAt(index);
            default -> text.insert(index, sign);
        }
    }
}
