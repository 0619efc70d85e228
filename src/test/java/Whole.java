/**
 * All that a terminal tells and all that it would do, as one text: what changes can change, the line, the stored
 * indices, the input buffer, the changes that can be undone, the saved copy and the next free ids. The calls use the
 * terminal up, and are so few that a terminal made by some hundred calls stays under its 512.
 */
final class Whole {
    private Whole() {
    }

    static String tell(ContainerTerminal x) {
        StringBuilder told = new StringBuilder(Check.view(x));
        told.append("\nundoable ").append(x.undoableCount());
        addStored(told, x);
        addLine(told, x);
        addBuffer(told, x);
        addPast(told, x);
        addNextId(told.append("\nnext id"), x);
        addSaved(told, x);
        return told.toString();
    }

    private static void addStored(StringBuilder told, ContainerTerminal x) {
        told.append("\nerror ").append(Check.outcome(x::errorPosition));
        told.append(", failed ").append(Check.outcome(x::failedCommand));
    }

    private static void addLine(StringBuilder told, ContainerTerminal x) {
        told.append("\nline ");
        int index = 0;
        while (Check.outcome(charAt(x, index)) instanceof Character) {
            told.append(x.lineChar(index));
            index++;
        }
    }

    private static Check.Call charAt(ContainerTerminal x, int index) {
        return () -> x.lineChar(index);
    }

    /** The buffer's length is what append returns; its text shows in what running it does, with a 2 behind it. */
    private static void addBuffer(StringBuilder told, ContainerTerminal x) {
        told.append("\nbuffer ").append(Check.outcome(() -> x.append('2')));
        told.append(", run ").append(Check.outcome(x::run));
        addStored(told, x);
        addBrief(told, x);
    }

    private static void addPast(StringBuilder told, ContainerTerminal x) {
        for (Object left = Check.outcome(x::undo); left instanceof Integer; left = Check.outcome(x::undo)) {
            told.append("\nundo ").append(left);
            addBrief(told, x);
        }
    }

    private static void addBrief(StringBuilder told, ContainerTerminal x) {
        told.append(", hour ").append(x.hour()).append(", fees ").append(x.fees());
        told.append(", answers ").append(x.clearedTotal()).append(' ').append(x.wrongTotal());
        told.append(", yard ").append(x.yardCount());
        for (int berth = 0; berth < 3; berth++) {
            told.append(", berth ").append(x.wrongAnswers(berth)).append(' ').append(x.lockedHours(berth));
            if (x.isMoored(berth)) {
                told.append(' ').append(x.dueHour(berth)).append(' ').append(x.weightOn(berth));
            }
        }
    }

    private static void addNextId(StringBuilder told, ContainerTerminal x) {
        for (int berth = 0; berth < 3; berth++) {
            int place = berth;
            Check.outcome(() -> x.moor(place, 4, x.hour()));
            told.append(' ').append(Check.outcome(() -> x.stow(place, x.emptiestStack(place), 1, 1)));
        }
    }

    private static void addSaved(StringBuilder told, ContainerTerminal x) {
        told.append("\nrestore ").append(Check.outcome(x::restore)).append(' ').append(Check.view(x));
        addNextId(told.append("\nnext id"), x);
    }
}
