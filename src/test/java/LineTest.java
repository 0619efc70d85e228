/** Promises 55 to 57: the formatted line. */
public final class LineTest {
    public static void main(String[] arguments) {
        formatStack();
        formatBerth();
        exceptionsKeepTheLine();
        lineChar();
        Check.end();
    }

    private static void stackIs(ContainerTerminal x, int berth, int stack, String due) {
        int length = x.formatStack(berth, stack);
        Check.due("formatStack", due.length(), length);
        Check.due("formatStack's line", due, Check.line(x, length));
    }

    private static void berthIs(ContainerTerminal x, int berth, String due) {
        int length = x.formatBerth(berth);
        Check.due("formatBerth", due.length(), length);
        Check.due("formatBerth's line", due, Check.line(x, length));
    }

    private static void formatStack() {
        ContainerTerminal x = Check.stacked(3);
        stackIs(x, 0, 0, "0:3/3");
        x.stow(0, 0, 30, 99);
        x.stow(0, 0, 10, 0);
        stackIs(x, 0, 0, "0:3/3 1:30/99 2:10/0");
        stackIs(x, 0, 1, "");
        x.stow(0, 0, 1, 10);
        x.stow(0, 0, 20, 5);
        stackIs(x, 0, 0, "0:3/3 1:30/99 2:10/0 3:1/10 4:20/5");
        x.move(0, 0, 3);
        x.move(0, 0, 3);
        stackIs(x, 0, 3, "4:20/5 3:1/10");
        longIds();
    }

    private static void longIds() {
        ContainerTerminal x = new ContainerTerminal();
        x.moor(2, 4, 50);
        for (int id = 0; id < 106; id++) {
            x.stow(2, 0, 30, 99);
            if (id < 101) {
                // The answer: 99 * 7 + 30 = 723. To ask for it would be calls too many for one object.
                x.clear(2, 0, 3);
                x.deliver(id);
            }
        }
        stackIs(x, 2, 0, "101:30/99 102:30/99 103:30/99 104:30/99 105:30/99");
    }

    private static void formatBerth() {
        ContainerTerminal x = new ContainerTerminal();
        berthIs(x, 0, "B0 -");
        berthIs(x, 2, "B2 -");
        x.moor(1, 7, 30);
        berthIs(x, 1, "B1 d7 h30 0");
        for (int count = 0; count < 12; count++) {
            x.stow(1, count % 4, 1, 0);
        }
        berthIs(x, 1, "B1 d7 h30 12");
        for (int count = 0; count < 3; count++) {
            x.clear(1, 0, 0);
            berthIs(x, 1, count < 2 ? "B1 d7 h30 12 x" + (count + 1) : "B1 d7 h30 12 L2");
        }
        x.pass(1);
        berthIs(x, 1, "B1 d7 h30 12 L1");
        x.pass(1);
        berthIs(x, 1, "B1 d7 h30 12");
        x.pass(100);
        x.pass(100);
        x.moor(0, 9, 1201);
        berthIs(x, 0, "B0 d9 h1201 0");
    }

    private static void exceptionsKeepTheLine() {
        ContainerTerminal x = new ContainerTerminal();
        x.moor(1, 7, 30);
        x.formatBerth(1);
        for (int place : new int[] {Integer.MIN_VALUE, -1, 4, Integer.MAX_VALUE}) {
            Check.outOfBounds("formatBerth", () -> x.formatBerth(place));
            Check.outOfBounds("formatStack berth", () -> x.formatStack(place, 0));
            Check.outOfBounds("formatStack stack", () -> x.formatStack(1, place));
            Check.outOfBounds("formatStack stack, no ship", () -> x.formatStack(0, place));
        }
        Check.outOfBounds("formatBerth 3", () -> x.formatBerth(3));
        Check.outOfBounds("formatStack berth 3", () -> x.formatStack(3, 0));
        Check.notFound("formatStack no ship", () -> x.formatStack(0, 0));
        Check.due("the line stays", "B1 d7 h30 0", Check.line(x, 11));
    }

    private static void lineChar() {
        ContainerTerminal x = new ContainerTerminal();
        for (int index : new int[] {Integer.MIN_VALUE, -1, 0, 1, Integer.MAX_VALUE}) {
            Check.outOfBounds("lineChar", () -> x.lineChar(index));
        }
        x.moor(1, 7, 30);
        x.formatBerth(1);
        Check.due("first", 'B', x.lineChar(0));
        Check.due("last", '0', x.lineChar(10));
        for (int index : new int[] {Integer.MIN_VALUE, -1, 11, 60, 100, Integer.MAX_VALUE}) {
            Check.outOfBounds("lineChar", () -> x.lineChar(index));
        }
        x.formatBerth(0);
        Check.due("the shorter line", "B0 -", Check.line(x, 4));
        x.leave(x.moor(0, 4, 30) - 2);
        Check.due("changes leave the line", "B0 -", Check.line(x, 4));
        x.undo();
        Check.due("undo leaves the line", "B0 -", Check.line(x, 4));
        x.save();
        x.restore();
        Check.due("restore leaves the line", "B0 -", Check.line(x, 4));
    }
}
