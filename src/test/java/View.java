/** What a knitter answers, as a text, to compare it ahead of a call and after it. */
final class View {
    private View() {
    }

    /** The data, the output, the latest rejection and the latest syntax error. */
    static String of(ShawlKnitter knitter) {
        return ofData(knitter)
                + " reason " + Check.outcome(knitter::rejectionReason)
                + " detail " + Check.outcome(knitter::rejectionDetail)
                + " cause " + Check.outcome(knitter::causeReason)
                + " offset " + Check.outcome(knitter::syntaxErrorOffset)
                + " output " + Check.outcome(() -> knitter.outputAt(0));
    }

    /** All that undo and the snapshot cover. */
    static String ofData(ShawlKnitter knitter) {
        StringBuilder text = new StringBuilder("bed ");
        for (int needle = 0; needle < 24; needle++) {
            text.append(needleOf(knitter, needle)).append(' ');
        }
        text.append("yarn ");
        for (int feeder = 0; feeder < 4; feeder++) {
            text.append(knitter.yarnIn(feeder)).append(' ');
        }
        text.append("feeder ").append(knitter.activeFeeder());
        text.append(" tension ").append(knitter.tension()).append(" pattern ");
        for (int row = 0; row < knitter.patternRows(); row++) {
            for (int column = 0; column < 8; column++) {
                text.append(knitter.isKnit(row, column) ? '1' : '0');
            }
            text.append(' ');
        }
        text.append("courses ");
        for (int course = 0; course < knitter.courseCount(); course++) {
            text.append(courseOf(knitter, course)).append(' ');
        }
        text.append("totals ").append(knitter.finishedShawls());
        text.append(' ').append(knitter.yarnAdded()).append(' ').append(knitter.yarnUsed());
        return text.append(' ').append(knitter.droppedLoops()).toString();
    }

    private static String needleOf(ShawlKnitter knitter, int needle) {
        if (!knitter.isInWork(needle)) {
            return ".";
        }
        return (knitter.isOnHold(needle) ? "h" : "") + knitter.loopsOn(needle)
                + (knitter.loopsOn(needle) > 0 ? "/" + knitter.ageOn(needle) : "");
    }

    private static String courseOf(ShawlKnitter knitter, int course) {
        return knitter.widthOf(course) + "f" + knitter.feederOf(course) + "y" + knitter.yarnOf(course)
                + "!" + knitter.dropsOf(course);
    }

    /** The output, asked sign by sign. */
    static String output(ShawlKnitter knitter, int length) {
        StringBuilder text = new StringBuilder();
        for (int index = 0; index < length; index++) {
            text.append(knitter.outputAt(index));
        }
        return text.toString();
    }

    static void type(ShawlKnitter knitter, String commands) {
        for (int index = 0; index < commands.length(); index++) {
            knitter.appendInput(commands.charAt(index));
        }
    }
}
