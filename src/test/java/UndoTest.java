/** Promises 62 to 65: undo and the saved copy. */
public final class UndoTest {
    public static void main(String[] arguments) {
        everyChange();
        atMostEight();
        whatIsNoChange();
        undoAndGoOn();
        undoTakesBackAll();
        saveAndRestore();
        savedCopyStays();
        restoreEndsUndo();
        Check.end();
    }

    private static void everyChange() {
        ContainerTerminal x = new ContainerTerminal();
        Check.badState("undo", x::undo);
        String[] views = new String[8];
        for (int step = 0; step < 8; step++) {
            views[step] = Check.view(x);
            Check.due("undoableCount", step, x.undoableCount());
            change(x, step);
        }
        Check.due("undoableCount", 8, x.undoableCount());
        for (int step = 7; step >= 0; step--) {
            Check.due("undo", step, x.undo());
            Check.due("undoableCount", step, x.undoableCount());
            Check.due("view", views[step], Check.view(x));
        }
        Check.badState("undo", x::undo);
        Check.due("undoableCount", 0, x.undoableCount());
    }

    private static void change(ContainerTerminal x, int step) {
        switch (step) {
            case 0: x.moor(0, 4, 5); break;
            case 1: x.stow(0, 0, 1, 1); break;
            case 2: x.clear(0, 0, 3); break;
            case 3: x.move(0, 0, 1); break;
            case 4: Check.run(x, "clear 01=8;stow 02 3/3;clear 02=4;hours 2"); break;
            case 5: x.deliver(0); break;
            case 6: x.leave(0); break;
            default: x.pass(9); break;
        }
    }

    private static void atMostEight() {
        ContainerTerminal x = new ContainerTerminal();
        for (int count = 1; count <= 30; count++) {
            x.pass(count);
            Check.due("undoableCount", Math.min(count, 8), x.undoableCount());
        }
        for (int count = 30; count > 22; count--) {
            Check.due("undo", count - 23, x.undo());
            Check.due("hour", count * (count - 1) / 2, x.hour());
        }
        Check.badState("a ninth undo", x::undo);
        Check.due("hour", 22 * 23 / 2, x.hour());
    }

    private static void whatIsNoChange() {
        ContainerTerminal x = Check.stacked(1);
        Check.outcome(() -> x.moor(0, 4, 5));
        Check.outcome(() -> x.stow(0, 0, 0, 0));
        Check.outcome(() -> x.clear(1, 0, 0));
        Check.outcome(() -> x.move(0, 0, 0));
        Check.outcome(() -> x.deliver(0));
        Check.outcome(() -> x.leave(0));
        Check.outcome(() -> x.pass(0));
        Check.run(x, "");
        Check.run(x, "hours 1;hours 0");
        x.feesAfter(5);
        x.save();
        x.formatBerth(0);
        x.formatStack(0, 0);
        x.isConsistent();
        x.movesToReachByCopy(0);
        x.canLeave(0);
        Check.due("only moor and stow", 2, x.undoableCount());
        x.undo();
        Check.due("view", "0 0 0 0 0 true | 0 0 d4 h100 / / / / | 0 0 | 0 0 yard", Check.view(x));
    }

    private static void undoAndGoOn() {
        ContainerTerminal x = new ContainerTerminal();
        for (int count = 1; count <= 10; count++) {
            x.pass(1);
        }
        Check.due("undo", 7, x.undo());
        Check.due("undo", 6, x.undo());
        x.pass(50);
        Check.due("undoableCount", 7, x.undoableCount());
        Check.due("undo", 6, x.undo());
        Check.due("hour", 8, x.hour());
        x.pass(1);
        x.pass(1);
        x.pass(1);
        Check.due("undoableCount", 8, x.undoableCount());
        for (int count = 7; count >= 0; count--) {
            Check.due("undo", count, x.undo());
            Check.due("hour", 3 + count, x.hour());
        }
    }

    private static void undoTakesBackAll() {
        ContainerTerminal x = Check.stacked(1, 2);
        Check.clearWrong(x, 0, 0);
        Check.clearWrong(x, 0, 0);
        String before = Check.view(x);
        Check.clearWrong(x, 0, 0);
        x.undo();
        Check.due("lock, wrong answers and fees", before, Check.view(x));
        Check.due("third wrong answer again", false, Check.clearWrong(x, 0, 0));
        Check.due("lockedHours", 2, x.lockedHours(0));
        x.undo();
        x.stow(0, 1, 7, 7);
        x.undo();
        Check.due("the next free id", 2, x.stow(0, 2, 8, 8));
        Check.due("weightOf", 8, x.weightOf(2));
        x.pass(100);
        Check.due("fees", 10, x.fees());
        x.pass(1);
        x.undo();
        Check.due("fees", "10 100", x.fees() + " " + x.hour());
    }

    private static void saveAndRestore() {
        ContainerTerminal x = new ContainerTerminal();
        Check.badState("restore", x::restore);
        Check.due("save", 0, x.save());
        x.moor(1, 4, 3);
        x.moor(2, 4, 3);
        x.stow(1, 0, 1, 1);
        x.stow(2, 3, 2, 2);
        Check.clearWrong(x, 1, 0);
        Check.clearRight(x, 2, 3);
        x.pass(5);
        Check.due("save", 2, x.save());
        String saved = Check.view(x);
        x.deliver(1);
        x.leave(2);
        Check.clearWrong(x, 1, 0);
        Check.clearWrong(x, 1, 0);
        x.pass(1);
        x.stow(1, 1, 30, 30);
        Check.due("restore", 2, x.restore());
        Check.due("view", saved, Check.view(x));
        Check.due("the next free id", 2, x.stow(1, 1, 3, 3));
    }

    private static void savedCopyStays() {
        ContainerTerminal x = new ContainerTerminal();
        x.moor(0, 4, 3);
        x.save();
        x.stow(0, 0, 1, 1);
        x.undo();
        x.undo();
        Check.due("shipCount", 0, x.shipCount());
        for (int count = 0; count < 3; count++) {
            Check.due("restore", 1, x.restore());
            Check.due("view", "0 0 0 0 0 true | 0 0 d4 h3 / / / / | 0 0 | 0 0 yard", Check.view(x));
            x.pass(10);
            x.moor(1, 4, 30);
        }
        x.save();
        x.leave(0);
        Check.due("the later copy", 2, x.restore());
        Check.due("hour", 10, x.hour());
    }

    private static void restoreEndsUndo() {
        ContainerTerminal x = new ContainerTerminal();
        x.pass(1);
        x.pass(1);
        x.save();
        Check.due("save keeps the changes undoable", 2, x.undoableCount());
        x.pass(1);
        x.restore();
        Check.due("undoableCount", 0, x.undoableCount());
        Check.badState("undo", x::undo);
        Check.due("hour", 2, x.hour());
        x.pass(7);
        Check.due("undo", 0, x.undo());
        Check.due("hour", 2, x.hour());
    }
}
