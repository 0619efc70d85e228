import java.util.NoSuchElementException;

/** The Terms on errors: what a refused call leaves, and which of several exceptions comes first. */
final class ErrorBoundaries {
    private static final Class<IndexOutOfBoundsException> BOUNDS = IndexOutOfBoundsException.class;
    private static final Class<IllegalArgumentException> ARGUMENT = IllegalArgumentException.class;
    private static final Class<IllegalStateException> STATE = IllegalStateException.class;
    private static final Class<NoSuchElementException> NOT_FOUND = NoSuchElementException.class;
    private static final String FIRST = "the exception that is listed first is thrown.";

    private ErrorBoundaries() {
    }

    static void run() {
        Boundary.test(Boundary.TERMS, "A method that throws an exception leaves the terminal unchanged",
            ErrorBoundaries::unchanged);
        Boundary.test(Boundary.TERMS, "unless its description says otherwise.", ErrorBoundaries::runSaysOtherwise);
        first(ErrorBoundaries::moor);
        first(ErrorBoundaries::stow);
        first(ErrorBoundaries::clear);
        first(ErrorBoundaries::move);
        first(ErrorBoundaries::ofShips);
        first(ErrorBoundaries::ofStacks);
        first(ErrorBoundaries::append);
        first(ErrorBoundaries::program);
    }

    private static void first(Runnable test) {
        Boundary.test(Boundary.TERMS, FIRST, test);
    }

    private static void refuses(Class<? extends RuntimeException> want, Boundary.Step... steps) {
        for (Boundary.Step step : steps) {
            Boundary.refuses(want, Scenes::busy, step);
        }
    }

    /** Every exception of every method that the busy terminal can be made to throw. */
    private static void unchanged() {
        refuses(BOUNDS, x -> x.moor(3, 4, 9), x -> x.stow(3, 0, 1, 1), x -> x.stow(0, 4, 1, 1), x -> x.clear(3, 0, 1),
            x -> x.clear(0, 4, 1), x -> x.move(3, 0, 1), x -> x.move(0, 4, 1), x -> x.move(0, 1, 4), x -> x.leave(3),
            x -> x.isMoored(3), x -> x.draught(3), x -> x.dueHour(3), x -> x.floats(3), x -> x.hoursUntilFloating(3),
            x -> x.hoursUntilFloatingByTide(3), x -> x.canLeave(3), x -> x.lockedHours(3), x -> x.wrongAnswers(3),
            x -> x.stackHeight(0, 4), x -> x.containerAt(0, 4, 0), x -> x.topOf(0, 4), x -> x.containersOn(3),
            x -> x.weightOn(3), x -> x.weightOnByContainers(3), x -> x.emptiestStack(3), x -> x.heavyOverLight(0, 4),
            x -> x.formatStack(0, 4), x -> x.formatBerth(3), x -> x.lineChar(13));
        refuses(ARGUMENT, x -> x.moor(1, 0, 9), x -> x.moor(1, 4, 2), x -> x.stow(0, 1, 0, 1),
            x -> x.stow(0, 1, 1, 100), x -> x.clear(0, 0, 10), x -> x.move(0, 1, 1), x -> x.pass(0), x -> x.pass(101),
            x -> x.feesAfter(0), x -> x.append((char) 31));
        refuses(STATE, x -> x.moor(0, 4, 9), x -> x.stow(1, 0, 1, 1), x -> x.stow(0, 0, 1, 1), x -> x.clear(1, 0, 1),
            x -> x.clear(2, 0, 1), x -> x.clear(0, 3, 1), x -> x.move(1, 0, 1), x -> x.move(0, 2, 1),
            x -> x.move(0, 1, 0), x -> x.leave(1), x -> x.leave(0), x -> x.leave(2));
        refuses(NOT_FOUND, x -> x.deliver(0), x -> x.draught(1), x -> x.dueHour(1), x -> x.floats(1),
            x -> x.hoursUntilFloating(1), x -> x.hoursUntilFloatingByTide(1), x -> x.stackHeight(1, 0),
            x -> x.containerAt(0, 0, 5), x -> x.topOf(0, 3), x -> x.containersOn(1), x -> x.weightOn(1),
            x -> x.weightOnByContainers(1), x -> x.weightOf(10), x -> x.keyOf(10), x -> x.answerOf(10),
            x -> x.berthOf(8), x -> x.stackOf(8), x -> x.levelOf(8), x -> x.movesToReach(8),
            x -> x.movesToReachByCopy(8), x -> x.heaviestAbove(4), x -> x.containerByWeight(8),
            x -> x.emptiestStack(1), x -> x.heavyOverLight(1, 0), x -> x.yardAt(2), x -> x.formatStack(1, 0));
    }

    /** A run that throws has emptied the buffer and stored an index; all else is as it was. */
    private static void runSaysOtherwise() {
        ContainerTerminal x = Scenes.busy();
        Boundary.due("append", 8, x.append(';'));
        Boundary.throwsDue(ARGUMENT, x, ContainerTerminal::run);
        Boundary.due("malformed", Whole.tell(Scenes.quiet()).replaceFirst("error 6", "error 8"), Whole.tell(x));
        ContainerTerminal y = Scenes.busy();
        Check.type(y, ";hours 0");
        Boundary.throwsDue(STATE, y, ContainerTerminal::run);
        Boundary.due("failed", Whole.tell(Scenes.quiet()), Whole.tell(y));
    }

    private static void moor() {
        refuses(BOUNDS, x -> x.moor(-1, 0, 9), x -> x.moor(3, 10, 9), x -> x.moor(3, 4, 2), x -> x.moor(-1, 0, 2));
        refuses(ARGUMENT, x -> x.moor(0, 0, 9), x -> x.moor(0, 10, 9), x -> x.moor(2, 4, 2), x -> x.moor(2, 4, 1003));
    }

    private static void stow() {
        refuses(BOUNDS, x -> x.stow(3, 0, 0, 1), x -> x.stow(-1, 0, 1, 100), x -> x.stow(0, 4, 31, 1),
            x -> x.stow(0, -1, 1, -1), x -> x.stow(1, 4, 1, 1), x -> x.stow(1, 4, 0, -1), x -> x.stow(3, 4, 0, -1));
        refuses(ARGUMENT, x -> x.stow(1, 0, 0, 1), x -> x.stow(1, 0, 1, 100), x -> x.stow(0, 0, 31, 1),
            x -> x.stow(0, 0, 1, -1), x -> x.stow(0, 0, 0, -1));
    }

    private static void clear() {
        refuses(BOUNDS, x -> x.clear(3, 0, 10), x -> x.clear(-1, 0, -1), x -> x.clear(0, 4, 10),
            x -> x.clear(0, -1, -1), x -> x.clear(1, 4, 1), x -> x.clear(2, 4, 1), x -> x.clear(1, -1, 10));
        refuses(ARGUMENT, x -> x.clear(1, 0, 10), x -> x.clear(2, 0, -1), x -> x.clear(0, 3, 10));
        Boundary.refuses(BOUNDS, () -> Scenes.yard(15), x -> x.clear(0, 4, 3));
        Boundary.refuses(BOUNDS, () -> Scenes.yard(15), x -> x.clear(3, 0, 3));
        Boundary.refuses(ARGUMENT, () -> Scenes.yard(15), x -> x.clear(0, 0, 13));
    }

    private static void move() {
        refuses(BOUNDS, x -> x.move(3, 0, 0), x -> x.move(-1, 1, 1), x -> x.move(0, 4, 4), x -> x.move(0, -1, -1),
            x -> x.move(1, 0, 4), x -> x.move(1, 4, 0), x -> x.move(0, 3, 4), x -> x.move(0, 3, -1),
            x -> x.move(0, 4, 0), x -> x.move(1, 4, 4));
        refuses(ARGUMENT, x -> x.move(1, 0, 0), x -> x.move(0, 3, 3), x -> x.move(0, 0, 0), x -> x.move(1, 3, 3));
    }

    /** What is asked of a ship at no berth at all: the berth comes first, as no ship is moored there either. */
    private static void ofShips() {
        for (int berth : new int[] {-1, 3}) {
            Boundary.refuses(BOUNDS, ContainerTerminal::new, x -> x.draught(berth));
            Boundary.refuses(BOUNDS, ContainerTerminal::new, x -> x.dueHour(berth));
            Boundary.refuses(BOUNDS, ContainerTerminal::new, x -> x.floats(berth));
            Boundary.refuses(BOUNDS, ContainerTerminal::new, x -> x.hoursUntilFloating(berth));
            Boundary.refuses(BOUNDS, ContainerTerminal::new, x -> x.hoursUntilFloatingByTide(berth));
            Boundary.refuses(BOUNDS, ContainerTerminal::new, x -> x.containersOn(berth));
            Boundary.refuses(BOUNDS, ContainerTerminal::new, x -> x.weightOn(berth));
            Boundary.refuses(BOUNDS, ContainerTerminal::new, x -> x.weightOnByContainers(berth));
            Boundary.refuses(BOUNDS, ContainerTerminal::new, x -> x.emptiestStack(berth));
            Boundary.refuses(BOUNDS, ContainerTerminal::new, x -> x.leave(berth));
        }
    }

    /** No such stack at a berth without a ship. */
    private static void ofStacks() {
        for (int stack : new int[] {-1, 4}) {
            refuses(BOUNDS, x -> x.stackHeight(1, stack), x -> x.containerAt(1, stack, 0), x -> x.topOf(1, stack),
                x -> x.heavyOverLight(1, stack), x -> x.formatStack(1, stack), x -> x.containerAt(1, stack, -1),
                x -> x.containerAt(0, stack, 5), x -> x.stackHeight(3, stack));
        }
        refuses(BOUNDS, x -> x.containerAt(3, 0, -1), x -> x.containerAt(-1, 0, 5));
    }

    private static ContainerTerminal fullBuffer() {
        ContainerTerminal x = new ContainerTerminal();
        Check.type(x, "hours 1;hours 1;hours 1;hours 1;hours 1;hours 1;hours 100000");
        return x;
    }

    private static void append() {
        for (int code : new int[] {0, 31, 127, 65535}) {
            Boundary.refuses(ARGUMENT, ErrorBoundaries::fullBuffer, x -> x.append((char) code));
        }
        Boundary.refuses(STATE, ErrorBoundaries::fullBuffer, x -> x.append(' '));
        Boundary.refuses(STATE, ErrorBoundaries::fullBuffer, x -> x.append('~'));
    }

    /** A command that fails in a program that is malformed behind it: nothing has failed. */
    private static void program() {
        ContainerTerminal x = new ContainerTerminal();
        Boundary.due("run", "throws java.lang.IllegalArgumentException", Check.run(x, "leave 0;hours 0;x"));
        Boundary.due("the error position", 16, x.errorPosition());
        Boundary.throwsDue(NOT_FOUND, x, ContainerTerminal::failedCommand);
    }
}
