import java.util.function.IntFunction;

/** Promises 9 to 21: hours, tides and ships. */
public final class ShipsTest {
    public static void main(String[] arguments) {
        berthsAreTested();
        shipsAreNeeded();
        hourAndTide();
        shipsTold();
        floating();
        waiting();
        mostUrgent();
        canLeave();
        locksAndWrongAnswers();
        Check.end();
    }

    private static void noBerth(String call, IntFunction<Object> made) {
        for (int berth : new int[] {Integer.MIN_VALUE, -1, 3, Integer.MAX_VALUE}) {
            Check.outOfBounds(call, () -> made.apply(berth));
        }
    }

    private static void berthsAreTested() {
        ContainerTerminal x = new ContainerTerminal();
        noBerth("isMoored", x::isMoored);
        noBerth("draught", x::draught);
        noBerth("dueHour", x::dueHour);
        noBerth("floats", x::floats);
        noBerth("hoursUntilFloating", x::hoursUntilFloating);
        noBerth("hoursUntilFloatingByTide", x::hoursUntilFloatingByTide);
        noBerth("canLeave", x::canLeave);
        noBerth("lockedHours", x::lockedHours);
        noBerth("wrongAnswers", x::wrongAnswers);
    }

    private static void shipsAreNeeded() {
        ContainerTerminal x = new ContainerTerminal();
        x.moor(1, 4, 9);
        x.moor(2, 4, 9);
        x.leave(2);
        for (int berth : new int[] {0, 2}) {
            Check.notFound("draught", () -> x.draught(berth));
            Check.notFound("dueHour", () -> x.dueHour(berth));
            Check.notFound("floats", () -> x.floats(berth));
            Check.notFound("hoursUntilFloating", () -> x.hoursUntilFloating(berth));
            Check.notFound("hoursUntilFloatingByTide", () -> x.hoursUntilFloatingByTide(berth));
            Check.due("isMoored", false, x.isMoored(berth));
            Check.due("lockedHours", 0, x.lockedHours(berth));
            Check.due("wrongAnswers", 0, x.wrongAnswers(berth));
        }
    }

    private static void hourAndTide() {
        ContainerTerminal x = new ContainerTerminal();
        int[] tides = {0, 1, 2, 3, 4, 5, 6, 5, 4, 3, 2, 1};
        for (int hour = 0; hour < 30; hour++) {
            Check.due("hour", hour, x.hour());
            Check.due("tide at " + hour, tides[hour % 12], x.tide());
            x.pass(1);
        }
        x.pass(76);
        Check.due("hour", 106, x.hour());
        Check.due("tide at 106", 2, x.tide());
    }

    private static void shipsTold() {
        ContainerTerminal x = new ContainerTerminal();
        x.pass(3);
        x.moor(2, 9, 1002);
        x.moor(0, 1, 3);
        Check.due("shipCount", 2, x.shipCount());
        Check.due("isMoored", "true false true", x.isMoored(0) + " " + x.isMoored(1) + " " + x.isMoored(2));
        Check.due("draughts", "1 9", x.draught(0) + " " + x.draught(2));
        Check.due("dueHours", "3 1002", x.dueHour(0) + " " + x.dueHour(2));
        x.pass(50);
        Check.due("dueHour that is over", 3, x.dueHour(0));
        x.leave(0);
        Check.due("shipCount", 1, x.shipCount());
        Check.due("isMoored", false, x.isMoored(0));
    }

    private static void floating() {
        for (int draught = 1; draught <= 9; draught++) {
            ContainerTerminal x = new ContainerTerminal();
            x.moor(1, draught, 100);
            for (int hour = 0; hour < 26; hour++) {
                Check.due("floats, draught " + draught + ", tide " + x.tide(), 4 + x.tide() >= draught, x.floats(1));
                x.pass(1);
            }
        }
    }

    private static void waiting() {
        // For the draughts 4, 5, 6 and 9, at the hours 0 to 12.
        int[][] waits = {
            {0, 0, 0, 0, 0, 0, 0, 0, 0, 0, 0, 0, 0},
            {1, 0, 0, 0, 0, 0, 0, 0, 0, 0, 0, 0, 1},
            {2, 1, 0, 0, 0, 0, 0, 0, 0, 0, 0, 3, 2},
            {5, 4, 3, 2, 1, 0, 0, 0, 9, 8, 7, 6, 5},
        };
        int[] draughts = {4, 5, 6, 9};
        for (int row = 0; row < draughts.length; row++) {
            ContainerTerminal x = new ContainerTerminal();
            x.moor(2, draughts[row], 100);
            for (int hour = 0; hour <= 12; hour++) {
                String at = ", draught " + draughts[row] + ", hour " + hour;
                Check.due("hoursUntilFloating" + at, waits[row][hour], x.hoursUntilFloating(2));
                Check.due("hoursUntilFloatingByTide" + at, waits[row][hour], x.hoursUntilFloatingByTide(2));
                x.pass(1);
            }
        }
    }

    private static void mostUrgent() {
        ContainerTerminal x = new ContainerTerminal();
        Check.notFound("mostUrgent", x::mostUrgent);
        x.moor(2, 4, 30);
        Check.due("the only ship", 2, x.mostUrgent());
        x.moor(1, 4, 30);
        Check.due("the lower berth", 1, x.mostUrgent());
        x.moor(0, 4, 31);
        Check.due("not the later one", 1, x.mostUrgent());
        x.stow(0, 0, 1, 1);
        x.stow(0, 1, 1, 1);
        x.stow(2, 3, 1, 1);
        Check.due("the one with more containers", 2, x.mostUrgent());
        x.stow(1, 3, 1, 1);
        Check.due("as many containers", 1, x.mostUrgent());
        Check.clearRight(x, 1, 3);
        Check.clearRight(x, 2, 3);
        x.leave(1);
        x.leave(2);
        Check.due("the one that is left", 0, x.mostUrgent());
        x.moor(1, 4, 29);
        Check.due("the one due earlier, without containers", 1, x.mostUrgent());
    }

    private static void canLeave() {
        ContainerTerminal x = new ContainerTerminal();
        Check.due("no ship", false, x.canLeave(0));
        x.moor(0, 5, 30);
        Check.due("low water", false, x.canLeave(0));
        x.pass(1);
        Check.due("water enough", true, x.canLeave(0));
        x.stow(0, 3, 2, 2);
        Check.due("loaded", false, x.canLeave(0));
        Check.clearRight(x, 0, 3);
        Check.due("unloaded", true, x.canLeave(0));
        x.pass(11);
        Check.due("low water again", false, x.canLeave(0));
        Check.badState("leave", () -> x.leave(0));
    }

    private static void locksAndWrongAnswers() {
        ContainerTerminal x = new ContainerTerminal();
        x.moor(1, 4, 30);
        x.moor(2, 4, 30);
        x.stow(1, 0, 1, 1);
        x.stow(1, 0, 2, 2);
        x.stow(2, 0, 1, 1);
        int[][] wrongThenLock = {{1, 0}, {2, 0}, {0, 2}};
        for (int[] due : wrongThenLock) {
            Check.clearWrong(x, 1, 0);
            Check.due("wrongAnswers", due[0], x.wrongAnswers(1));
            Check.due("lockedHours", due[1], x.lockedHours(1));
            Check.due("wrongAnswers elsewhere", 0, x.wrongAnswers(2));
            Check.due("lockedHours elsewhere", 0, x.lockedHours(2));
        }
        x.pass(1);
        Check.due("lockedHours", 1, x.lockedHours(1));
        x.pass(1);
        Check.due("lockedHours", 0, x.lockedHours(1));
        Check.clearWrong(x, 1, 0);
        Check.clearRight(x, 1, 0);
        Check.due("a right answer changes no wrong ones", 1, x.wrongAnswers(1));
    }
}
