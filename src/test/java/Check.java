/** Counts what the tests find, and tells it. */
final class Check {
    private static int right = 0;
    private static int wrong = 0;

    private Check() {
    }

    interface Call {
        Object answer();
    }

    static void due(String call, Object want, Object got) {
        if (want.equals(got)) {
            right++;
        } else {
            wrong++;
            System.out.println(call + " answered " + got + ", due is " + want);
        }
    }

    /** The exception's class must be the very one that is due: no class below it, as the machine's own are. */
    static void throwsDue(String call, Class<? extends RuntimeException> want, Call made) {
        due(call, "throws " + want.getName(), outcome(made));
    }

    static void outOfBounds(String call, Call made) {
        throwsDue(call, IndexOutOfBoundsException.class, made);
    }

    static void badArgument(String call, Call made) {
        throwsDue(call, IllegalArgumentException.class, made);
    }

    static void badState(String call, Call made) {
        throwsDue(call, IllegalStateException.class, made);
    }

    static void notFound(String call, Call made) {
        throwsDue(call, java.util.NoSuchElementException.class, made);
    }

    /** How many answers have been looked at. */
    static int looked() {
        return right + wrong;
    }

    static Object outcome(Call made) {
        try {
            return made.answer();
        } catch (RuntimeException thrown) {
            return "throws " + thrown.getClass().getName();
        }
    }

    /** Appends a text to the input buffer and runs it. */
    static Object run(ContainerTerminal terminal, String text) {
        type(terminal, text);
        return outcome(terminal::run);
    }

    static void type(ContainerTerminal terminal, String text) {
        for (char character : text.toCharArray()) {
            terminal.append(character);
        }
    }

    static String line(ContainerTerminal terminal, int length) {
        StringBuilder line = new StringBuilder();
        for (int index = 0; index < length; index++) {
            line.append(terminal.lineChar(index));
        }
        outOfBounds("lineChar behind the line", () -> terminal.lineChar(length));
        return line.toString();
    }

    /** Everything that changes can change and that the terminal tells, as one text. */
    static String view(ContainerTerminal x) {
        StringBuilder view = new StringBuilder();
        view.append(x.hour()).append(' ').append(x.fees()).append(' ').append(x.clearedTotal()).append(' ')
            .append(x.deliveredTotal()).append(' ').append(x.wrongTotal()).append(' ').append(x.isConsistent());
        for (int berth = 0; berth < 3; berth++) {
            view.append(" | ").append(x.lockedHours(berth)).append(' ').append(x.wrongAnswers(berth));
            if (x.isMoored(berth)) {
                view.append(" d").append(x.draught(berth)).append(" h").append(x.dueHour(berth));
                for (int stack = 0; stack < 4; stack++) {
                    view.append(" /");
                    for (int level = 0; level < x.stackHeight(berth, stack); level++) {
                        addContainer(view, x, x.containerAt(berth, stack, level));
                    }
                }
            }
        }
        view.append(" yard");
        for (int position = 0; position < x.yardCount(); position++) {
            addContainer(view, x, x.yardAt(position));
        }
        return view.toString();
    }

    private static void addContainer(StringBuilder view, ContainerTerminal x, int id) {
        view.append(' ').append(id).append(':').append(x.weightOf(id)).append('/').append(x.keyOf(id));
    }

    /** A terminal with a ship at berth 0 and these containers on its stack 0; a weight of w has the key w. */
    static ContainerTerminal stacked(int... weights) {
        ContainerTerminal x = new ContainerTerminal();
        x.moor(0, 4, 100);
        for (int weight : weights) {
            x.stow(0, 0, weight, weight);
        }
        return x;
    }

    /** Clears the top container of a stack with its right answer. */
    static boolean clearRight(ContainerTerminal x, int berth, int stack) {
        return x.clear(berth, stack, x.answerOf(x.topOf(berth, stack)));
    }

    static boolean clearWrong(ContainerTerminal x, int berth, int stack) {
        return x.clear(berth, stack, (x.answerOf(x.topOf(berth, stack)) + 1) % 10);
    }

    static void end() {
        System.out.println(right + " answers are as due, " + wrong + " are not");
        if (wrong > 0 || right == 0) {
            System.exit(1);
        }
    }
}
