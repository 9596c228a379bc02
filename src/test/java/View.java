/** What a knitter answers, as a text, to compare it ahead of a call and after it. */
final class View {
    private View() {
    }

    /** The data, the output, the latest rejection and the latest syntax error. */
    static String of(ShawlKnitter knitter) {
        return ofData(knitter) + " rejection " + ofRejection(knitter) + " offset " + ofSyntaxError(knitter)
                + " output " + ofOutput(knitter);
    }

    /** All that undo and the snapshot cover, in at most some 300 calls. */
    static String ofData(ShawlKnitter knitter) {
        StringBuilder text = new StringBuilder("bed ");
        for (int needle = 0; needle < 24; needle++) {
            text.append(needleOf(knitter, needle)).append(' ');
        }
        text.append("yarn ");
        for (int feeder = 0; feeder < 4; feeder++) {
            text.append(knitter.yarnIn(feeder)).append(' ');
        }
        text.append("feeder ").append(knitter.activeFeeder());
        text.append(" tension ").append(knitter.tension()).append(" pattern ");
        text.append(ofPattern(knitter)).append("courses ");
        int courses = knitter.courseCount();
        for (int course = 0; course < courses; course++) {
            text.append(courseOf(knitter, course)).append(' ');
        }
        text.append("totals ").append(knitter.finishedShawls());
        text.append(' ').append(knitter.yarnAdded()).append(' ').append(knitter.yarnUsed());
        return text.append(' ').append(knitter.droppedLoops()).toString();
    }

    /** The rows, each with its column 0 first. */
    static String ofPattern(ShawlKnitter knitter) {
        StringBuilder text = new StringBuilder();
        int rows = knitter.patternRows();
        for (int row = 0; row < rows; row++) {
            for (int column = 0; column < 8; column++) {
                text.append(knitter.isKnit(row, column) ? '1' : '0');
            }
            text.append(' ');
        }
        return text.toString();
    }

    private static String needleOf(ShawlKnitter knitter, int needle) {
        int loops = knitter.loopsOn(needle);
        boolean held = knitter.isOnHold(needle);
        boolean inWork = knitter.isInWork(needle);
        if (!inWork && !held && loops == 0) {
            return ".";
        }
        return (inWork ? "" : "out") + (held ? "h" : "") + loops + (loops > 0 ? "/" + knitter.ageOn(needle) : "");
    }

    private static String courseOf(ShawlKnitter knitter, int course) {
        return knitter.widthOf(course) + "f" + knitter.feederOf(course) + "y" + knitter.yarnOf(course)
                + "!" + knitter.dropsOf(course);
    }

    /** The numbers that tell most of the data, in some 20 calls. */
    static String inBrief(ShawlKnitter knitter) {
        StringBuilder text = new StringBuilder();
        for (int feeder = 0; feeder < 4; feeder++) {
            text.append(knitter.yarnIn(feeder)).append(' ');
        }
        text.append("f").append(knitter.activeFeeder()).append(" t").append(knitter.tension());
        text.append(" rows ").append(knitter.patternRows()).append(" needles ").append(knitter.needlesInWork());
        text.append(" h").append(knitter.needlesOnHold()).append(" loops ").append(knitter.loopCount());
        text.append(" run ").append(knitter.longestRun()).append(" next ").append(knitter.nextWidth());
        text.append(" courses ").append(knitter.courseCount()).append(' ').append(knitter.stitchCount());
        text.append(" totals ").append(knitter.finishedShawls()).append(' ').append(knitter.yarnAdded());
        return text.append(' ').append(knitter.yarnUsed()).append(' ').append(knitter.droppedLoops()).toString();
    }

    static String ofRejection(ShawlKnitter knitter) {
        return Check.outcome(knitter::rejectionReason) + " " + Check.outcome(knitter::rejectionDetail) + " "
                + Check.outcome(knitter::causeReason);
    }

    static String ofSyntaxError(ShawlKnitter knitter) {
        return Check.outcome(knitter::syntaxErrorOffset);
    }

    /** The whole output, and what ends it. */
    static String ofOutput(ShawlKnitter knitter) {
        StringBuilder text = new StringBuilder();
        for (int index = 0; index < 40; index++) {
            int at = index;
            String sign = Check.outcome(() -> knitter.outputAt(at));
            text.append(sign);
            if (sign.length() > 1) {
                break;
            }
        }
        return text.toString();
    }

    /** What each undo answers until none is left, and what it brings back. */
    static String ofHistory(ShawlKnitter knitter) {
        StringBuilder text = new StringBuilder(inBrief(knitter));
        for (int count = 0; count < 10; count++) {
            String answer = Check.outcome(knitter::undo);
            text.append('\n').append(answer);
            if (answer.length() > 1) {
                break;
            }
            text.append(": ").append(inBrief(knitter));
        }
        return text.toString();
    }

    static String ofSnapshot(ShawlKnitter knitter) {
        return Check.outcome(knitter::restoreSnapshot) + ": " + ofData(knitter);
    }

    /** What the input holds shows by one more character, and by its execution. */
    static String ofInput(ShawlKnitter knitter) {
        return Check.outcome(() -> knitter.appendInput('5')) + " " + Check.outcome(knitter::execute) + " "
                + ofSyntaxError(knitter) + " " + inBrief(knitter);
    }

    /** The output, asked sign by sign. */
    static String output(ShawlKnitter knitter, int length) {
        StringBuilder text = new StringBuilder();
        for (int index = 0; index < length; index++) {
            text.append(knitter.outputAt(index));
        }
        return text.toString();
    }

    static void type(ShawlKnitter knitter, String commands) {
        for (int index = 0; index < commands.length(); index++) {
            knitter.appendInput(commands.charAt(index));
        }
    }
}
