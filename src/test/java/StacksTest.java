/** Promises 22 to 27, 40 and 41: the stacks of a ship. */
public final class StacksTest {
    private static final int[] NO_BERTHS = {Integer.MIN_VALUE, -1, 3, Integer.MAX_VALUE};
    private static final int[] NO_STACKS = {Integer.MIN_VALUE, -1, 4, Integer.MAX_VALUE};

    private interface OnStack {
        Object answer(int berth, int stack);
    }

    public static void main(String[] arguments) {
        ContainerTerminal x = loaded();
        exceptions("stackHeight", x::stackHeight);
        exceptions("containerAt", (berth, stack) -> x.containerAt(berth, stack, 0));
        exceptions("containerAt, no level", (berth, stack) -> x.containerAt(berth, stack, -1));
        exceptions("topOf", x::topOf);
        exceptions("heavyOverLight", x::heavyOverLight);
        exceptionsOfBerth("containersOn", (berth, stack) -> x.containersOn(berth));
        exceptionsOfBerth("weightOn", (berth, stack) -> x.weightOn(berth));
        exceptionsOfBerth("weightOnByContainers", (berth, stack) -> x.weightOnByContainers(berth));
        exceptionsOfBerth("emptiestStack", (berth, stack) -> x.emptiestStack(berth));
        heights(x);
        containersByPlace(x);
        weights(x);
        emptiestStack();
        heavyOverLight();
        Check.end();
    }

    /** Berth 1: 0:5 2:7 3:9 on stack 0, 4:30 on stack 3. Berth 2: 1:6 on stack 2. No ship at berth 0. */
    private static ContainerTerminal loaded() {
        ContainerTerminal x = new ContainerTerminal();
        x.moor(1, 4, 50);
        x.moor(2, 4, 50);
        x.stow(1, 0, 5, 1);
        x.stow(2, 2, 6, 1);
        x.stow(1, 0, 7, 1);
        x.stow(1, 0, 9, 1);
        x.stow(1, 3, 30, 1);
        return x;
    }

    private static void exceptionsOfBerth(String call, OnStack made) {
        for (int berth : NO_BERTHS) {
            Check.outOfBounds(call, () -> made.answer(berth, 0));
        }
        Check.notFound(call, () -> made.answer(0, 0));
    }

    private static void exceptions(String call, OnStack made) {
        exceptionsOfBerth(call, made);
        for (int stack : NO_STACKS) {
            Check.outOfBounds(call, () -> made.answer(1, stack));
            Check.outOfBounds(call + ", no ship", () -> made.answer(0, stack));
            Check.outOfBounds(call + ", no berth", () -> made.answer(3, stack));
        }
    }

    private static void heights(ContainerTerminal x) {
        int[][] heights = {{}, {3, 0, 0, 1}, {0, 0, 1, 0}};
        for (int berth = 1; berth < 3; berth++) {
            for (int stack = 0; stack < 4; stack++) {
                Check.due("stackHeight", heights[berth][stack], x.stackHeight(berth, stack));
            }
        }
        Check.due("containersOn", 4, x.containersOn(1));
        Check.due("containersOn", 1, x.containersOn(2));
        for (int weight = 1; weight <= 4; weight++) {
            x.stow(2, 2, weight, 0);
        }
        Check.due("stackHeight", 5, x.stackHeight(2, 2));
        for (int count = 0; count < 4; count++) {
            x.undo();
        }
    }

    private static void containersByPlace(ContainerTerminal x) {
        int[] ids = {0, 2, 3};
        for (int level = 0; level < 3; level++) {
            Check.due("containerAt", ids[level], x.containerAt(1, 0, level));
        }
        for (int level : new int[] {Integer.MIN_VALUE, -1, 3, 4, 5, Integer.MAX_VALUE}) {
            Check.notFound("containerAt", () -> x.containerAt(1, 0, level));
        }
        Check.notFound("containerAt, empty", () -> x.containerAt(1, 1, 0));
        Check.due("containerAt", 1, x.containerAt(2, 2, 0));
        Check.due("topOf", 3, x.topOf(1, 0));
        Check.due("topOf", 4, x.topOf(1, 3));
        Check.due("topOf", 1, x.topOf(2, 2));
        Check.notFound("topOf, empty", () -> x.topOf(1, 2));
        Check.notFound("topOf, empty", () -> x.topOf(2, 3));
    }

    private static void weights(ContainerTerminal x) {
        Check.due("weightOn", 51, x.weightOn(1));
        Check.due("weightOnByContainers", 51, x.weightOnByContainers(1));
        Check.due("weightOn", 6, x.weightOn(2));
        Check.due("weightOnByContainers", 6, x.weightOnByContainers(2));
        Check.clearRight(x, 2, 2);
        Check.due("weightOn, empty ship", 0, x.weightOn(2));
        Check.due("weightOnByContainers, empty ship", 0, x.weightOnByContainers(2));
        x.move(1, 0, 2);
        Check.due("weightOn after move", 51, x.weightOn(1));
        Check.due("weightOnByContainers after move", 51, x.weightOnByContainers(1));
        x.undo();
        x.undo();
    }

    private static void emptiestStack() {
        ContainerTerminal x = new ContainerTerminal();
        x.moor(0, 4, 50);
        Check.due("empty ship", 0, x.emptiestStack(0));
        int[] next = {1, 2, 3, 0};
        for (int round = 0; round < 2; round++) {
            for (int stack = 0; stack < 4; stack++) {
                x.stow(0, stack, 1, 1);
                Check.due("emptiestStack", next[stack], x.emptiestStack(0));
            }
        }
        x.move(0, 2, 0);
        Check.due("emptiestStack", 2, x.emptiestStack(0));
        x.move(0, 3, 0);
        Check.due("the lower of two", 2, x.emptiestStack(0));
        x.move(0, 3, 0);
        Check.due("emptiestStack", 3, x.emptiestStack(0));
    }

    private static void heavyOverLight() {
        Check.due("empty", 0, Check.stacked().heavyOverLight(0, 0));
        Check.due("one", 0, Check.stacked(9).heavyOverLight(0, 0));
        Check.due("light over heavy", 0, Check.stacked(9, 8).heavyOverLight(0, 0));
        Check.due("equal", 0, Check.stacked(9, 9, 9).heavyOverLight(0, 0));
        Check.due("heavy over light", 1, Check.stacked(8, 9).heavyOverLight(0, 0));
        Check.due("not next to one another", 2, Check.stacked(8, 3, 9).heavyOverLight(0, 0));
        Check.due("all pairs", 10, Check.stacked(1, 2, 3, 4, 30).heavyOverLight(0, 0));
        Check.due("some pairs", 4, Check.stacked(2, 1, 3, 1, 2).heavyOverLight(0, 0));
        Check.due("another stack", 0, Check.stacked(1, 2, 3).heavyOverLight(0, 1));
    }
}
