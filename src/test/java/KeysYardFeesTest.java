/** Promises 42 to 54: keys, the yard, fees, totals and the check of the terminal. */
public final class KeysYardFeesTest {
    public static void main(String[] arguments) {
        keys();
        twins();
        yard();
        feesAfter();
        fees();
        totals();
        meanHeight();
        rightShare();
        consistent();
        fullTerminal();
        Check.end();
    }

    private static void keys() {
        ContainerTerminal x = new ContainerTerminal();
        Check.due("no keys", 0, x.differentKeys());
        x.moor(0, 4, 50);
        x.moor(1, 4, 50);
        x.stow(0, 0, 1, 0);
        x.stow(1, 0, 1, 99);
        Check.due("two keys", 2, x.differentKeys());
        x.stow(1, 1, 2, 0);
        Check.due("a key again", 2, x.differentKeys());
        x.stow(1, 1, 2, 50);
        Check.clearRight(x, 1, 1);
        Check.due("a key in the yard", 3, x.differentKeys());
        x.deliver(3);
        Check.due("a key delivered", 2, x.differentKeys());
    }

    private static void twins() {
        ContainerTerminal x = new ContainerTerminal();
        twinsAre(x, 0);
        x.moor(0, 4, 50);
        x.moor(1, 4, 50);
        x.stow(0, 0, 7, 3);
        x.stow(0, 0, 3, 7);
        x.stow(0, 1, 7, 4);
        x.stow(0, 1, 8, 3);
        twinsAre(x, 0);
        x.stow(1, 0, 7, 3);
        twinsAre(x, 1);
        x.stow(0, 2, 7, 3);
        twinsAre(x, 3);
        x.stow(0, 2, 7, 3);
        twinsAre(x, 6);
        x.stow(1, 1, 8, 3);
        twinsAre(x, 7);
        Check.clearRight(x, 0, 2);
        twinsAre(x, 7);
        x.deliver(6);
        twinsAre(x, 4);
        ContainerTerminal y = Check.stacked(1, 1, 1, 1, 1);
        twinsAre(y, 10);
    }

    private static void twinsAre(ContainerTerminal x, int due) {
        Check.due("keyTwins", due, x.keyTwins());
        Check.due("keyTwinsByGroups", due, x.keyTwinsByGroups());
    }

    private static void yard() {
        ContainerTerminal x = Check.stacked(1, 2, 3);
        Check.due("yardCount", 0, x.yardCount());
        Check.notFound("yardAt", () -> x.yardAt(0));
        for (int count = 1; count <= 3; count++) {
            Check.clearRight(x, 0, 0);
            Check.due("yardCount", count, x.yardCount());
        }
        for (int position = 0; position < 3; position++) {
            Check.due("yardAt", 2 - position, x.yardAt(position));
        }
        for (int position : new int[] {Integer.MIN_VALUE, -1, 3, 14, 15, Integer.MAX_VALUE}) {
            Check.notFound("yardAt", () -> x.yardAt(position));
        }
        x.deliver(1);
        Check.due("yardCount", 2, x.yardCount());
        Check.due("yardAt", "2 0", x.yardAt(0) + " " + x.yardAt(1));
        x.stow(0, 2, 1, 1);
        Check.clearRight(x, 0, 2);
        Check.due("yardAt", "2 0 3", x.yardAt(0) + " " + x.yardAt(1) + " " + x.yardAt(2));
    }

    private static void feesAfter() {
        ContainerTerminal x = Check.stacked(1, 2);
        x.moor(1, 4, 3);
        for (int hours : new int[] {Integer.MIN_VALUE, -1, 0, 101, Integer.MAX_VALUE}) {
            Check.badArgument("feesAfter", () -> x.feesAfter(hours));
        }
        Check.clearWrong(x, 0, 0);
        String before = Check.view(x);
        int undoable = x.undoableCount();
        Check.due("feesAfter", 0, x.feesAfter(3));
        Check.due("feesAfter", 1, x.feesAfter(4));
        Check.due("feesAfter", 97, x.feesAfter(100));
        Check.due("view", before, Check.view(x));
        Check.due("no change", undoable, x.undoableCount());
        x.pass(99);
        Check.due("feesAfter with two ships", 1 + (1 + 3), x.feesAfter(2));
        Check.due("pass", 5, x.pass(2));
    }

    private static void fees() {
        ContainerTerminal x = Check.stacked(1, 2);
        Check.due("fees", 0, x.fees());
        Check.clearWrong(x, 0, 0);
        Check.due("fees of a wrong answer", 5, x.fees());
        Check.clearRight(x, 0, 0);
        Check.due("fees of a right answer", 5, x.fees());
        x.pass(100);
        Check.due("fees until the due hour", 5, x.fees());
        x.pass(3);
        Check.due("fees after the due hour", 11, x.fees());
        Check.clearRight(x, 0, 0);
        x.pass(1);
        Check.due("fees of the ship itself", 12, x.fees());
        x.moor(1, 4, 104);
        x.pass(5);
        Check.due("fees of two ships", 22, x.fees());
        x.leave(1);
        x.pass(1);
        Check.due("fees of the one that is left", 23, x.fees());
    }

    private static void totals() {
        ContainerTerminal x = Check.stacked(1, 2, 3);
        totalsAre(x, 0, 0, 0);
        Check.clearRight(x, 0, 0);
        totalsAre(x, 1, 0, 0);
        for (int count = 0; count < 3; count++) {
            Check.clearWrong(x, 0, 0);
        }
        totalsAre(x, 1, 0, 3);
        x.pass(2);
        Check.clearWrong(x, 0, 0);
        Check.clearRight(x, 0, 0);
        x.deliver(2);
        totalsAre(x, 2, 1, 4);
        x.deliver(1);
        totalsAre(x, 2, 2, 4);
        x.undo();
        x.undo();
        totalsAre(x, 2, 0, 4);
    }

    private static void totalsAre(ContainerTerminal x, int cleared, int delivered, int wrong) {
        Check.due("clearedTotal", cleared, x.clearedTotal());
        Check.due("deliveredTotal", delivered, x.deliveredTotal());
        Check.due("wrongTotal", wrong, x.wrongTotal());
    }

    private static void meanHeight() {
        ContainerTerminal x = new ContainerTerminal();
        Check.throwsDue("meanHeight", ArithmeticException.class, x::meanHeight);
        x.moor(0, 4, 50);
        Check.due("meanHeight", 0.0, x.meanHeight());
        x.stow(0, 0, 1, 1);
        Check.due("meanHeight", 0.25, x.meanHeight());
        x.moor(1, 4, 50);
        x.moor(2, 4, 50);
        Check.due("meanHeight", 1.0 / 12.0, x.meanHeight());
        x.stow(2, 0, 1, 1);
        x.stow(2, 0, 1, 1);
        x.stow(2, 0, 1, 1);
        x.stow(2, 0, 1, 1);
        Check.due("meanHeight", 5.0 / 12.0, x.meanHeight());
        Check.clearRight(x, 0, 0);
        Check.due("meanHeight, one in the yard", 4.0 / 12.0, x.meanHeight());
        x.leave(0);
        Check.due("meanHeight", 0.5, x.meanHeight());
    }

    private static void rightShare() {
        ContainerTerminal x = Check.stacked(1, 2, 3);
        Check.throwsDue("rightShare", ArithmeticException.class, x::rightShare);
        Check.clearWrong(x, 0, 0);
        Check.due("rightShare", 0.0f, x.rightShare());
        Check.clearRight(x, 0, 0);
        Check.due("rightShare", 0.5f, x.rightShare());
        Check.clearRight(x, 0, 0);
        Check.due("rightShare", 2.0f / 3.0f, x.rightShare());
        x.deliver(2);
        Check.due("rightShare", 2.0f / 3.0f, x.rightShare());
        ContainerTerminal y = Check.stacked(1);
        Check.clearRight(y, 0, 0);
        Check.due("rightShare", 1.0f, y.rightShare());
        y.undo();
        Check.throwsDue("rightShare after undo", ArithmeticException.class, y::rightShare);
    }

    private static void consistent() {
        ContainerTerminal x = new ContainerTerminal();
        Check.due("isConsistent", true, x.isConsistent());
        x.moor(0, 9, 5);
        x.moor(2, 7, 5);
        for (int count = 0; count < 30; count++) {
            x.stow(count % 2 * 2, count / 2 % 4, count % 3 + 1, count % 5);
            Check.due("isConsistent", true, x.isConsistent());
        }
        for (int count = 0; count < 12; count++) {
            Check.clearRight(x, 0, count % 3);
            x.move(2, x.stackHeight(2, 3) < 5 ? count % 3 : 3, x.stackHeight(2, 3) < 5 ? 3 : count % 3);
            x.pass(1);
            Check.due("isConsistent", true, x.isConsistent());
        }
        x.deliver(x.yardAt(3));
        Check.due("isConsistent", true, x.isConsistent());
        x.undo();
        Check.due("isConsistent", true, x.isConsistent());
    }

    /** 60 containers on the ships and 15 in the yard: no terminal holds more. */
    private static void fullTerminal() {
        ContainerTerminal x = new ContainerTerminal();
        for (int berth = 0; berth < 3; berth++) {
            x.moor(berth, 9, 0);
        }
        for (int id = 0; id < 75; id++) {
            int stack = id / 3 % 4;
            x.stow(id % 3, stack, 1 + id % 30, id);
            if (id < 15) {
                Check.clearRight(x, id % 3, stack);
            }
        }
        for (int place = 0; place < 12; place++) {
            Check.due("stackHeight", 5, x.stackHeight(place / 4, place % 4));
        }
        Check.due("yardCount", 15, x.yardCount());
        Check.due("the last container", "74 30 4", x.topOf(2, 0) + " " + x.weightOf(59) + " " + x.levelOf(74));
        Check.due("differentKeys", 75, x.differentKeys());
        Check.due("meanHeight", 5.0, x.meanHeight());
        Check.due("feesAfter", 63, x.feesAfter(1));
        Check.due("containerByWeight, first", 29, x.containerByWeight(0));
        Check.due("containerByWeight, last", 60, x.containerByWeight(59));
        Check.notFound("containerByWeight", () -> x.containerByWeight(60));
        Check.due("isConsistent", true, x.isConsistent());
        Check.badState("stow", () -> x.stow(0, 0, 1, 1));
        Check.badState("clear", () -> Check.clearRight(x, 0, 0));
        Check.badState("move", () -> x.move(0, 0, 1));
        x.deliver(0);
        Check.due("clear", true, Check.clearRight(x, 2, 0));
        Check.due("yardAt", 74, x.yardAt(14));
        Check.due("isConsistent", true, x.isConsistent());
        x.undo();
        x.undo();
        Check.due("yardAt", 0, x.yardAt(0));
    }
}
