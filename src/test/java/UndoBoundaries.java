/** The boundary cases of the Terms on undo, and of promises 62 to 65: undo and the saved copy. */
final class UndoBoundaries {
    private static final Class<IllegalStateException> STATE = IllegalStateException.class;

    private UndoBoundaries() {
    }

    static void run() {
        terms("The calls of the methods to which commands correspond, and of run, that return normally are changes",
            UndoBoundaries::everyChange);
        terms("even if they have no effect", UndoBoundaries::withoutEffect);
        terms("Up to 8 changes can be undone", UndoBoundaries::upToEight);
        terms("the latest change first.", UndoBoundaries::latestFirst);
        terms("Undo does not affect the input buffer", UndoBoundaries::keepsBuffer);
        terms("the error position, the index", UndoBoundaries::keepsErrorPosition);
        terms("the index of the failed command, the formatted line", UndoBoundaries::keepsFailedCommand);
        terms("the formatted line, or the saved copy.", UndoBoundaries::keepsLine);
        terms("or the saved copy.", UndoBoundaries::keepsSaved);
        Boundary.test(62, "Returns the number, 0 to 8.", UndoBoundaries::count);
        Boundary.test(63, "Undoes the latest change that has not been undone.", UndoBoundaries::wrapsAround);
        Boundary.test(63, "Returns the number of changes that can still be undone.", UndoBoundaries::stillUndoable);
        Boundary.test(63, "no change can be undone", UndoBoundaries::noChange);
        Boundary.test(64, "Saves a copy of everything that changes can change", UndoBoundaries::savesAll);
        Boundary.test(64, "replacing an earlier copy", UndoBoundaries::replacesCopy);
        Boundary.test(64, "Returns the number of moored ships.", () -> ships(ContainerTerminal::save));
        Boundary.test(65, "Restores the saved copy, which stays available.", UndoBoundaries::staysAvailable);
        Boundary.test(65, "No changes can be undone afterwards.", UndoBoundaries::endsUndo);
        Boundary.test(65, "Returns the number of moored ships.", () -> ships(UndoBoundaries::saveAndRestore));
        Boundary.test(65, "there is no saved copy", UndoBoundaries::noCopy);
    }

    private static void terms(String words, Runnable test) {
        Boundary.test(Boundary.TERMS, words, test);
    }

    /** A change that was undone has left nothing, but that the changes before it are fewer if eight came before it. */
    private static void changes(Boundary.Step change) {
        ContainerTerminal x = Scenes.quiet();
        String before = Check.view(x);
        change.on(x);
        Boundary.due("one change more", 5, x.undoableCount());
        Boundary.due("it changed something", false, before.equals(Check.view(x)));
        Boundary.due("undo", 4, x.undo());
        Boundary.due("the terminal", Whole.tell(Scenes.quiet()), Whole.tell(x));
    }

    private static void everyChange() {
        changes(x -> x.moor(1, 4, 9));
        changes(x -> x.stow(0, 3, 1, 1));
        changes(x -> Check.clearRight(x, 0, 1));
        changes(x -> Check.clearWrong(x, 0, 1));
        changes(x -> x.move(0, 0, 1));
        changes(x -> x.deliver(9));
        changes(x -> x.pass(1));
        changes(x -> x.pass(100));
        changes(x -> Check.run(x, "hours 1"));
        changes(x -> Check.run(x, "move 001;deliver 9;hours 1"));
        ContainerTerminal y = Scenes.threeShips();
        String before = Check.view(y);
        y.leave(1);
        Boundary.due("leave", 3, y.undo());
        Boundary.due("the terminal", before, Check.view(y));
        refusedIsNoChange();
        atEachBerth();
        onFullTerminal();
    }

    /** At each berth, what an undo brings back: the ship, its wrong answers, and the hours of its lock. */
    private static void atEachBerth() {
        for (int berth = 0; berth < 3; berth++) {
            ContainerTerminal x = Scenes.threeShips();
            x.stow(berth, 1, 1, 1);
            int[][] wrongAndLock = {{0, 0}, {1, 0}, {2, 0}, {0, 2}, {0, 1}};
            for (int step = 1; step <= 4; step++) {
                Object made = step < 4 ? x.clear(berth, 1, 0) : x.pass(1);
                Boundary.due("step " + step, step < 4 ? false : 0, made);
            }
            for (int step = 4; step >= 0; step--) {
                int[] due = wrongAndLock[step];
                Boundary.due("wrong answers and lock before " + step, due[0] + " " + due[1],
                    x.wrongAnswers(berth) + " " + x.lockedHours(berth));
                x.undo();
            }
            Boundary.due("the ship without its container", 0, x.containersOn(berth));
            x.leave(berth);
            x.moor(berth, 9, 7);
            x.undo();
            x.undo();
            Boundary.due("the ship itself", "4 100", x.draught(berth) + " " + x.dueHour(berth));
        }
    }

    private static String last(ContainerTerminal x) {
        return x.yardCount() + " " + x.yardAt(14) + " " + x.stackHeight(2, 0) + " " + x.topOf(2, 0) + " "
            + x.weightOf(74) + " " + x.keyOf(74) + " " + x.levelOf(74) + " " + x.isConsistent();
    }

    /** The last of 75 containers comes back by undo and by restore. */
    private static void onFullTerminal() {
        ContainerTerminal x = Scenes.full();
        String before = last(x);
        x.save();
        x.deliver(0);
        x.clear(2, 0, 3);
        x.stow(2, 0, 1, 1);
        x.undo();
        x.undo();
        x.undo();
        Boundary.due("after three undos", before, last(x));
        Boundary.due("run", 2, Check.run(x, "deliver 14;clear 20=3"));
        x.deliver(74);
        Boundary.due("restore", 3, x.restore());
        Boundary.due("after restore", before, last(x));
    }

    private static void refusedIsNoChange() {
        for (String text : new String[] {"leave 1", "hours 1;leave 1", "hours x", ""}) {
            ContainerTerminal x = Scenes.quiet();
            Check.run(x, text);
            Boundary.due("after run " + text, 4, x.undoableCount());
        }
        ContainerTerminal x = Scenes.busy();
        x.append('1');
        x.save();
        x.formatBerth(1);
        x.formatStack(0, 0);
        x.feesAfter(3);
        x.isConsistent();
        Boundary.due("after calls that are no changes", 4, x.undoableCount());
    }

    private static void withoutEffect() {
        ContainerTerminal x = Scenes.quiet();
        String before = Check.view(x);
        Boundary.due("a program without effect", 2, Check.run(x, "move 012;move 021"));
        Boundary.due("the terminal", before, Check.view(x));
        Boundary.due("is a change", 5, x.undoableCount());
        Boundary.due("undo", 4, x.undo());
        Boundary.due("the terminal after it", before, Check.view(x));
    }

    private static ContainerTerminal passed(int count) {
        ContainerTerminal x = new ContainerTerminal();
        for (int hours = 1; hours <= count; hours++) {
            x.pass(hours);
        }
        return x;
    }

    private static void upToEight() {
        for (int count = 0; count <= 20; count++) {
            ContainerTerminal x = passed(count);
            int undoable = Math.min(count, 8);
            for (int left = undoable - 1; left >= 0; left--) {
                Boundary.due("undo of " + count, left, x.undo());
            }
            int first = count - undoable;
            Boundary.due("hour after all undos of " + count, first * (first + 1) / 2, x.hour());
            Boundary.throwsDue(STATE, x, ContainerTerminal::undo);
            Boundary.due("hour after the refused one", first * (first + 1) / 2, x.hour());
        }
    }

    private static void latestFirst() {
        ContainerTerminal x = passed(12);
        for (int count = 12; count > 4; count--) {
            Boundary.due("hour before the undo of " + count, count * (count + 1) / 2, x.hour());
            x.undo();
        }
        ContainerTerminal y = Scenes.threeShips();
        y.stow(0, 0, 1, 1);
        y.stow(1, 0, 2, 2);
        y.undo();
        Boundary.due("the earlier one stays", "true false", y.isOnShip(0) + " " + y.isOnShip(1));
    }

    private static void keepsBuffer() {
        ContainerTerminal x = Scenes.busy();
        x.undo();
        Boundary.due("append behind the text", 8, x.append('0'));
        Boundary.due("run the text", 1, x.run());
        Boundary.due("it is hours 30", 33, x.hour());
        x.undo();
        Boundary.due("undo of run brings no text back", 1, x.append('h'));
    }

    private static void keepsErrorPosition() {
        ContainerTerminal x = Scenes.quiet();
        Check.run(x, "hours 1");
        Check.run(x, "moor 4");
        Boundary.due("before", 6, x.errorPosition());
        Check.run(x, "hours 1;");
        x.undo();
        Boundary.due("after undo", 8, x.errorPosition());
        x.undo();
        x.undo();
        Boundary.due("after three undos", 8, x.errorPosition());
        ContainerTerminal y = passed(2);
        y.undo();
        Boundary.throwsDue(java.util.NoSuchElementException.class, y, ContainerTerminal::errorPosition);
    }

    private static void keepsFailedCommand() {
        ContainerTerminal x = Scenes.quiet();
        Check.run(x, "hours 1");
        Check.run(x, "hours 1;hours 1;leave 1");
        x.undo();
        Boundary.due("after undo", 2, x.failedCommand());
        x.undo();
        Boundary.due("after two undos", 2, x.failedCommand());
        ContainerTerminal y = passed(2);
        y.undo();
        Boundary.throwsDue(java.util.NoSuchElementException.class, y, ContainerTerminal::failedCommand);
    }

    private static void keepsLine() {
        ContainerTerminal x = Scenes.quiet();
        x.stow(0, 1, 1, 1);
        x.formatStack(0, 1);
        x.undo();
        Boundary.due("the line of what is undone", "5:30/99 10:1/1", Check.line(x, 14));
        x.undo();
        Boundary.due("and after one more", "5:30/99 10:1/1", Check.line(x, 14));
    }

    private static void keepsSaved() {
        ContainerTerminal x = passed(3);
        x.moor(1, 4, 50);
        x.save();
        String saved = Check.view(x);
        x.undo();
        x.undo();
        Boundary.due("the hour", 3, x.hour());
        Boundary.due("restore", 1, x.restore());
        Boundary.due("the terminal", saved, Check.view(x));
        ContainerTerminal y = passed(3);
        y.undo();
        Boundary.throwsDue(STATE, y, ContainerTerminal::restore);
    }

    private static void count() {
        for (int count = 0; count <= 17; count++) {
            int changes = count;
            Boundary.answers(Math.min(count, 8), () -> passed(changes), ContainerTerminal::undoableCount);
        }
        ContainerTerminal x = passed(9);
        for (int left = 7; left >= 0; left--) {
            x.undo();
            Boundary.due("after undo", left, x.undoableCount());
        }
        x.pass(1);
        Boundary.due("after a change", 1, x.undoableCount());
    }

    /** Changes, undos and changes again, more of them than the eight that are kept, at every place of a ring. */
    private static void wrapsAround() {
        for (int changes = 1; changes <= 17; changes++) {
            for (int undos = 1; undos <= Math.min(8, changes); undos++) {
                ContainerTerminal x = passed(changes);
                for (int count = 0; count < undos; count++) {
                    x.undo();
                }
                int kept = changes - undos;
                Boundary.due("the hour", kept * (kept + 1) / 2, x.hour());
                x.pass(100);
                Boundary.due("undoable", Math.min(8, changes) - undos + 1, x.undoableCount());
                x.undo();
                Boundary.due("the hour again", kept * (kept + 1) / 2, x.hour());
                while (x.undoableCount() > 0) {
                    x.undo();
                    kept--;
                    Boundary.due("the hour before", kept * (kept + 1) / 2, x.hour());
                }
                Boundary.due("the earliest one kept", Math.max(0, changes - 8), kept);
            }
        }
    }

    private static void stillUndoable() {
        Boundary.answers(0, () -> passed(1), ContainerTerminal::undo);
        Boundary.answers(1, () -> passed(2), ContainerTerminal::undo);
        Boundary.answers(7, () -> passed(8), ContainerTerminal::undo);
        Boundary.answers(7, () -> passed(9), ContainerTerminal::undo);
        Boundary.answers(3, Scenes::busy, ContainerTerminal::undo);
    }

    private static void noChange() {
        Boundary.refuses(STATE, ContainerTerminal::new, ContainerTerminal::undo);
        Boundary.refuses(STATE, () -> undone(1), ContainerTerminal::undo);
        Boundary.refuses(STATE, () -> undone(8), ContainerTerminal::undo);
        Boundary.refuses(STATE, () -> undone(9), ContainerTerminal::undo);
        Boundary.refuses(STATE, UndoBoundaries::restored, ContainerTerminal::undo);
    }

    private static ContainerTerminal undone(int changes) {
        ContainerTerminal x = passed(changes);
        while (x.undoableCount() > 0) {
            x.undo();
        }
        return x;
    }

    private static ContainerTerminal restored() {
        ContainerTerminal x = passed(5);
        x.save();
        x.pass(3);
        x.restore();
        return x;
    }

    /** After save, whatever change is made: restore brings all of it back. */
    private static void savesAll() {
        savesFrom(x -> x.moor(1, 9, 1000));
        savesFrom(x -> x.stow(0, 3, 1, 1));
        savesFrom(x -> Check.clearRight(x, 0, 1));
        savesFrom(x -> Check.clearWrong(x, 0, 1));
        savesFrom(x -> x.move(0, 0, 1));
        savesFrom(x -> x.deliver(9));
        savesFrom(x -> x.pass(1));
        savesFrom(x -> x.pass(100));
        savesFrom(x -> Check.run(x, "moor 1 4 9;stow 13 1/1;clear 13=8;deliver 10;leave 1"));
        savesFrom(x -> {
            x.undo();
            x.undo();
            return x.undo();
        });
        ContainerTerminal y = Scenes.threeShips();
        y.save();
        y.leave(1);
        Boundary.due("the ship that left", 3, y.restore());
        Boundary.due("the terminal", Check.view(Scenes.threeShips()), Check.view(y));
    }

    private static void savesFrom(Boundary.Step change) {
        ContainerTerminal x = Scenes.quiet();
        x.save();
        change.on(x);
        Boundary.due("restore", 2, x.restore());
        Boundary.due("the terminal", Check.view(Scenes.quiet()), Check.view(x));
        Boundary.due("the next free id", 10, x.stow(0, 3, 1, 1));
    }

    private static void replacesCopy() {
        ContainerTerminal x = new ContainerTerminal();
        for (int count = 1; count <= 3; count++) {
            x.pass(1);
            x.save();
            x.pass(10);
            x.restore();
            Boundary.due("the latest copy", count, x.hour());
        }
        x.save();
        x.save();
        x.pass(1);
        x.restore();
        Boundary.due("saved twice", 3, x.hour());
    }

    private static void ships(Boundary.Step step) {
        Boundary.answers(0, ContainerTerminal::new, step);
        Boundary.answers(1, Check::stacked, step);
        Boundary.answers(2, Scenes::busy, step);
        Boundary.answers(3, Scenes::loaded, step);
    }

    private static Object saveAndRestore(ContainerTerminal x) {
        x.save();
        x.pass(1);
        Check.outcome(() -> x.moor(1, 4, x.hour()));
        Check.outcome(() -> x.moor(2, 4, x.hour()));
        return x.restore();
    }

    private static void staysAvailable() {
        ContainerTerminal x = Scenes.quiet();
        x.save();
        String saved = Check.view(x);
        for (int count = 0; count < 2; count++) {
            Boundary.due("restore", 2, x.restore());
            Boundary.due("the terminal", saved, Check.view(x));
            x.stow(0, 1 + count % 3, 1, 1);
            x.deliver(8 + count % 2);
            x.pass(7);
        }
        x.restore();
        Boundary.due("twice in turn", 2, x.restore());
        Boundary.due("the terminal at last", saved, Check.view(x));
    }

    private static void endsUndo() {
        for (int changes = 0; changes <= 9; changes++) {
            ContainerTerminal x = passed(2);
            x.save();
            for (int count = 0; count < changes; count++) {
                x.pass(1);
            }
            x.restore();
            Boundary.due("undoableCount", 0, x.undoableCount());
            Boundary.throwsDue(STATE, x, ContainerTerminal::undo);
            Boundary.due("the hour", 3, x.hour());
            x.pass(5);
            Boundary.due("a change after it", 0, x.undo());
            Boundary.due("the hour after its undo", 3, x.hour());
        }
    }

    private static void noCopy() {
        Boundary.refuses(STATE, ContainerTerminal::new, ContainerTerminal::restore);
        Boundary.refuses(STATE, Scenes::loaded, ContainerTerminal::restore);
        ContainerTerminal x = Scenes.loaded();
        x.save();
        Boundary.due("with a copy", 3, x.restore());
    }
}
