/** Promises 1 to 8: a new object and the changes. */
public final class ChangesTest {
    private static final int LEAST = Integer.MIN_VALUE;
    private static final int MOST = Integer.MAX_VALUE;

    public static void main(String[] arguments) {
        newObject();
        moor();
        stow();
        clear();
        clearLocks();
        clearNeedsRoom();
        move();
        deliver();
        leave();
        leaveTakesLock();
        pass();
        passEndsLocks();
        Check.end();
    }

    private static void newObject() {
        ContainerTerminal x = new ContainerTerminal();
        Check.due("new hour", 0, x.hour());
        Check.due("new tide", 0, x.tide());
        Check.due("new shipCount", 0, x.shipCount());
        Check.due("new view", "0 0 0 0 0 true | 0 0 | 0 0 | 0 0 yard", Check.view(x));
        Check.due("new undoableCount", 0, x.undoableCount());
        Check.outOfBounds("new lineChar", () -> x.lineChar(0));
        Check.notFound("new errorPosition", x::errorPosition);
        Check.notFound("new failedCommand", x::failedCommand);
        Check.badState("new restore", x::restore);
        Check.badState("new undo", x::undo);
        Check.notFound("new mostUrgent", x::mostUrgent);
    }

    private static void moor() {
        ContainerTerminal x = new ContainerTerminal();
        for (int berth : new int[] {LEAST, -1, 3, MOST}) {
            Check.outOfBounds("moor berth", () -> x.moor(berth, 5, 10));
            Check.outOfBounds("moor berth first", () -> x.moor(berth, 0, -1));
        }
        for (int draught : new int[] {LEAST, -1, 0, 10, MOST}) {
            Check.badArgument("moor draught", () -> x.moor(0, draught, 10));
        }
        x.pass(7);
        for (int dueHour : new int[] {LEAST, -1, 0, 6, 1007, MOST}) {
            Check.badArgument("moor dueHour", () -> x.moor(0, 5, dueHour));
        }
        Check.due("view", "7 0 0 0 0 true | 0 0 | 0 0 | 0 0 yard", Check.view(x));
        Check.due("moor earliest", 1, x.moor(2, 1, 7));
        Check.due("moor latest", 2, x.moor(0, 9, 1006));
        Check.badState("moor twice", () -> x.moor(2, 5, 10));
        Check.badArgument("moor twice, draught", () -> x.moor(2, 0, 10));
        Check.badArgument("moor twice, dueHour", () -> x.moor(2, 5, 6));
        Check.due("moor third", 3, x.moor(1, 4, 500));
        Check.due("view", "7 0 0 0 0 true | 0 0 d9 h1006 / / / / | 0 0 d4 h500 / / / / | 0 0 d1 h7 / / / / yard",
            Check.view(x));
    }

    private static void stow() {
        ContainerTerminal x = new ContainerTerminal();
        for (int place : new int[] {LEAST, -1, 3, MOST}) {
            Check.outOfBounds("stow berth", () -> x.stow(place, 0, 1, 1));
            Check.outOfBounds("stow berth first", () -> x.stow(place, 0, 0, -1));
        }
        for (int place : new int[] {LEAST, -1, 4, MOST}) {
            Check.outOfBounds("stow stack", () -> x.stow(0, place, 1, 1));
            Check.outOfBounds("stow stack first", () -> x.stow(0, place, 31, 1));
        }
        for (int weight : new int[] {LEAST, -1, 0, 31, MOST}) {
            Check.badArgument("stow weight", () -> x.stow(0, 0, weight, 1));
        }
        for (int key : new int[] {LEAST, -1, 100, MOST}) {
            Check.badArgument("stow key", () -> x.stow(0, 0, 1, key));
        }
        Check.badState("stow no ship", () -> x.stow(0, 0, 1, 0));
        x.moor(0, 3, 9);
        x.moor(2, 3, 9);
        Check.due("stow", 0, x.stow(0, 0, 1, 0));
        Check.due("stow", 1, x.stow(2, 3, 30, 99));
        Check.badState("stow no ship", () -> x.stow(1, 0, 1, 0));
        for (int id = 2; id < 6; id++) {
            Check.due("stow", id, x.stow(0, 0, id, 0));
        }
        Check.badState("stow full", () -> x.stow(0, 0, 1, 0));
        Check.badArgument("stow full, weight", () -> x.stow(0, 0, 31, 0));
        Check.due("stow beside", 6, x.stow(0, 1, 1, 0));
        Check.due("view", "0 0 0 0 0 true | 0 0 d3 h9 / 0:1/0 2:2/0 3:3/0 4:4/0 5:5/0 / 6:1/0 / / | 0 0 "
            + "| 0 0 d3 h9 / / / / 1:30/99 yard", Check.view(x));
    }

    private static void clear() {
        ContainerTerminal x = Check.stacked(3, 4);
        for (int place : new int[] {LEAST, -1, 3, MOST}) {
            Check.outOfBounds("clear berth", () -> x.clear(place, 0, 1));
            Check.outOfBounds("clear berth first", () -> x.clear(place, 0, 10));
        }
        for (int place : new int[] {LEAST, -1, 4, MOST}) {
            Check.outOfBounds("clear stack", () -> x.clear(0, place, 1));
            Check.outOfBounds("clear stack first", () -> x.clear(0, place, -1));
        }
        for (int answer : new int[] {LEAST, -1, 10, MOST}) {
            Check.badArgument("clear answer", () -> x.clear(0, 0, answer));
            Check.badArgument("clear answer, no ship", () -> x.clear(1, 0, answer));
        }
        Check.badState("clear no ship", () -> x.clear(1, 0, 1));
        Check.badState("clear empty stack", () -> x.clear(0, 1, 1));
        Check.due("view", "0 0 0 0 0 true | 0 0 d4 h100 / 0:3/3 1:4/4 / / / | 0 0 | 0 0 yard", Check.view(x));
        // The answers: 4 * 7 + 4 = 32, and 3 * 7 + 3 = 24.
        Check.due("clear wrong", false, x.clear(0, 0, 4));
        Check.due("view", "0 5 0 0 1 true | 0 1 d4 h100 / 0:3/3 1:4/4 / / / | 0 0 | 0 0 yard", Check.view(x));
        Check.due("clear right", true, x.clear(0, 0, 2));
        Check.due("view", "0 5 1 0 1 true | 0 1 d4 h100 / 0:3/3 / / / | 0 0 | 0 0 yard 1:4/4", Check.view(x));
        Check.due("clear right", true, x.clear(0, 0, 4));
        Check.due("view", "0 5 2 0 1 true | 0 1 d4 h100 / / / / | 0 0 | 0 0 yard 1:4/4 0:3/3", Check.view(x));
    }

    private static void clearLocks() {
        ContainerTerminal x = Check.stacked(3, 4);
        x.moor(1, 4, 100);
        x.stow(1, 2, 1, 0);
        Check.clearWrong(x, 0, 0);
        Check.clearWrong(x, 0, 0);
        Check.due("two wrong answers", "0 2", x.lockedHours(0) + " " + x.wrongAnswers(0));
        Check.due("third wrong answer", false, Check.clearWrong(x, 0, 0));
        Check.due("view", "0 15 0 0 3 true | 2 0 d4 h100 / 0:3/3 1:4/4 / / / | 0 0 d4 h100 / / / 2:1/0 / | 0 0 yard",
            Check.view(x));
        Check.badState("clear locked", () -> x.clear(0, 0, 2));
        Check.badArgument("clear locked, answer", () -> x.clear(0, 0, 10));
        Check.due("clear at another berth", true, Check.clearRight(x, 1, 2));
        Check.due("move while locked", 1, x.move(0, 0, 1));
        Check.due("stow while locked", 3, x.stow(0, 1, 5, 5));
        x.pass(1);
        Check.badState("clear locked", () -> x.clear(0, 0, 4));
        x.pass(1);
        Check.due("clear after the lock", true, x.clear(0, 0, 4));
    }

    private static void clearNeedsRoom() {
        ContainerTerminal x = new ContainerTerminal();
        x.moor(0, 4, 100);
        for (int count = 0; count < 15; count++) {
            x.stow(0, count % 4, 1, count);
            Check.due("clear into the yard", true, Check.clearRight(x, 0, count % 4));
        }
        x.stow(0, 0, 1, 0);
        Check.due("yardCount", 15, x.yardCount());
        Check.badState("clear, full yard", () -> Check.clearRight(x, 0, 0));
        Check.badState("clear wrong, full yard", () -> Check.clearWrong(x, 0, 0));
        Check.due("no wrong answer", "0 0", x.wrongTotal() + " " + x.fees());
        x.deliver(7);
        Check.due("clear with room", true, Check.clearRight(x, 0, 0));
        Check.due("yard's last", 15, x.yardAt(14));
    }

    private static void move() {
        ContainerTerminal x = Check.stacked(1, 2, 3, 4, 5);
        for (int place : new int[] {LEAST, -1, 3, MOST}) {
            Check.outOfBounds("move berth", () -> x.move(place, 0, 1));
            Check.outOfBounds("move berth first", () -> x.move(place, 1, 1));
        }
        for (int place : new int[] {LEAST, -1, 4, MOST}) {
            Check.outOfBounds("move from", () -> x.move(0, place, 1));
            Check.outOfBounds("move to", () -> x.move(0, 0, place));
            Check.outOfBounds("move from and to", () -> x.move(0, place, place));
        }
        Check.badArgument("move to the same", () -> x.move(0, 0, 0));
        Check.badArgument("move to the same, no ship", () -> x.move(1, 2, 2));
        Check.badArgument("move to the same, empty", () -> x.move(0, 2, 2));
        Check.badState("move no ship", () -> x.move(1, 0, 1));
        Check.badState("move from empty", () -> x.move(0, 1, 0));
        Check.due("move", 4, x.move(0, 0, 3));
        Check.due("move", 3, x.move(0, 0, 3));
        Check.due("move back", 3, x.move(0, 3, 0));
        Check.due("view", "0 0 0 0 0 true | 0 0 d4 h100 / 0:1/1 1:2/2 2:3/3 3:4/4 / / / 4:5/5 | 0 0 | 0 0 yard",
            Check.view(x));
        x.stow(0, 0, 6, 6);
        Check.badState("move to full", () -> x.move(0, 3, 0));
        Check.due("move from full", 5, x.move(0, 0, 3));
    }

    private static void deliver() {
        ContainerTerminal x = Check.stacked(1, 2, 3, 4);
        Check.notFound("deliver from a ship", () -> x.deliver(0));
        for (int count = 0; count < 3; count++) {
            Check.clearRight(x, 0, 0);
        }
        for (int id : new int[] {LEAST, -1, 0, 4, MOST}) {
            Check.notFound("deliver", () -> x.deliver(id));
        }
        Check.due("deliver", 2, x.deliver(2));
        Check.notFound("deliver twice", () -> x.deliver(2));
        Check.due("view", "0 0 3 1 0 true | 0 0 d4 h100 / 0:1/1 / / / | 0 0 | 0 0 yard 3:4/4 1:2/2", Check.view(x));
        Check.clearRight(x, 0, 0);
        Check.due("deliver", 2, x.deliver(3));
        Check.due("deliver", 1, x.deliver(0));
        Check.due("deliver", 0, x.deliver(1));
        Check.due("view", "0 0 4 4 0 true | 0 0 d4 h100 / / / / | 0 0 | 0 0 yard", Check.view(x));
        Check.due("ids go on", 4, x.stow(0, 0, 1, 1));
    }

    private static void leave() {
        ContainerTerminal x = new ContainerTerminal();
        for (int berth : new int[] {LEAST, -1, 3, MOST}) {
            Check.outOfBounds("leave berth", () -> x.leave(berth));
        }
        Check.badState("leave no ship", () -> x.leave(0));
        x.moor(0, 4, 50);
        x.moor(1, 5, 50);
        x.moor(2, 4, 50);
        Check.badState("leave, does not float", () -> x.leave(1));
        Check.due("leave", 2, x.leave(0));
        Check.badState("leave twice", () -> x.leave(0));
        x.stow(2, 1, 9, 9);
        Check.badState("leave, loaded", () -> x.leave(2));
        x.pass(1);
        Check.due("leave with the tide", 1, x.leave(1));
        Check.clearRight(x, 2, 1);
        Check.due("leave unloaded", 0, x.leave(2));
        Check.due("view", "1 0 1 0 0 true | 0 0 | 0 0 | 0 0 yard 0:9/9", Check.view(x));
        Check.due("moor again", 1, x.moor(2, 6, 50));
    }

    private static void leaveTakesLock() {
        ContainerTerminal x = Check.stacked(1);
        Check.clearWrong(x, 0, 0);
        Check.clearWrong(x, 0, 0);
        Check.clearRight(x, 0, 0);
        x.leave(0);
        Check.due("wrongAnswers after leave", 0, x.wrongAnswers(0));
        x.moor(0, 1, 50);
        x.stow(0, 0, 1, 1);
        Check.clearWrong(x, 0, 0);
        Check.due("wrongAnswers of the next ship", 1, x.wrongAnswers(0));
        leaveEndsLock();
    }

    private static void leaveEndsLock() {
        ContainerTerminal x = Check.stacked(1, 2);
        for (int count = 0; count < 3; count++) {
            Check.clearWrong(x, 0, 0);
        }
        x.pass(1);
        Check.due("locked", 1, x.lockedHours(0));
        Check.badState("leave, loaded and locked", () -> x.leave(0));
        // A lock only comes while a container is there, and while it lasts none is cleared: no ship leaves locked.
        x.pass(1);
        Check.clearRight(x, 0, 0);
        Check.clearRight(x, 0, 0);
        Check.due("leave", 0, x.leave(0));
        Check.due("lock after leave", "0 0", x.lockedHours(0) + " " + x.wrongAnswers(0));
    }

    private static void pass() {
        ContainerTerminal x = new ContainerTerminal();
        for (int hours : new int[] {LEAST, -1, 0, 101, MOST}) {
            Check.badArgument("pass", () -> x.pass(hours));
        }
        Check.due("hour", 0, x.hour());
        x.moor(0, 4, 2);
        x.moor(1, 4, 3);
        x.stow(0, 0, 1, 1);
        x.stow(0, 1, 1, 1);
        Check.due("pass to the due hour", 0, x.pass(2));
        Check.due("pass over one due hour", 3, x.pass(1));
        Check.due("pass over both due hours", 4, x.pass(1));
        Check.due("pass on", 8, x.pass(2));
        Check.due("fees", 15, x.fees());
        Check.clearRight(x, 0, 0);
        Check.due("pass with less load", 3, x.pass(1));
        Check.due("pass 100", 300, x.pass(100));
        Check.due("hour", 107, x.hour());
    }

    private static void passEndsLocks() {
        ContainerTerminal x = Check.stacked(1);
        x.moor(1, 4, 100);
        x.stow(1, 0, 1, 1);
        for (int count = 0; count < 3; count++) {
            Check.clearWrong(x, 0, 0);
        }
        x.pass(1);
        for (int count = 0; count < 3; count++) {
            Check.clearWrong(x, 1, 0);
        }
        Check.due("locks", "1 2 0", x.lockedHours(0) + " " + x.lockedHours(1) + " " + x.lockedHours(2));
        x.pass(1);
        Check.due("locks", "0 1 0", x.lockedHours(0) + " " + x.lockedHours(1) + " " + x.lockedHours(2));
        x.pass(5);
        Check.due("locks", "0 0 0", x.lockedHours(0) + " " + x.lockedHours(1) + " " + x.lockedHours(2));
    }
}
