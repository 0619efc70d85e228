import java.util.function.IntFunction;

/** Promises 28 to 39: containers by their ids. */
public final class ContainersTest {
    public static void main(String[] arguments) {
        onShipAndInYard();
        weightKeyAnswer();
        places();
        digging();
        heaviestAbove();
        byWeight();
        strangersAreNotFound();
        Check.end();
    }

    private static void onShipAndInYard() {
        ContainerTerminal x = Check.stacked(3, 4);
        for (int id : new int[] {Integer.MIN_VALUE, -1, 2, Integer.MAX_VALUE}) {
            Check.due("isOnShip", false, x.isOnShip(id));
            Check.due("isInYard", false, x.isInYard(id));
        }
        whereIs(x, 1, true, false);
        Check.clearRight(x, 0, 0);
        whereIs(x, 0, true, false);
        whereIs(x, 1, false, true);
        x.deliver(1);
        whereIs(x, 1, false, false);
        x.undo();
        whereIs(x, 1, false, true);
    }

    private static void whereIs(ContainerTerminal x, int id, boolean onShip, boolean inYard) {
        Check.due("isOnShip", onShip, x.isOnShip(id));
        Check.due("isInYard", inYard, x.isInYard(id));
    }

    private static void weightKeyAnswer() {
        ContainerTerminal x = new ContainerTerminal();
        x.moor(2, 4, 50);
        int[][] containers = {{1, 0, 1}, {30, 99, 3}, {10, 0, 0}, {13, 10, 3}, {9, 10, 9}, {30, 1, 7}};
        for (int id = 0; id < containers.length; id++) {
            x.stow(2, id % 4, containers[id][0], containers[id][1]);
        }
        containersAre(x, containers);
        Check.due("clear", true, x.clear(2, 0, 9));
        Check.due("clear", true, x.clear(2, 3, 3));
        containersAre(x, containers);
        x.deliver(3);
        Check.due("weightOf behind the delivered one", 9, x.weightOf(4));
        Check.notFound("weightOf the delivered one", () -> x.weightOf(3));
        Check.notFound("keyOf the delivered one", () -> x.keyOf(3));
        Check.notFound("answerOf the delivered one", () -> x.answerOf(3));
    }

    private static void containersAre(ContainerTerminal x, int[][] containers) {
        for (int id = 0; id < containers.length; id++) {
            Check.due("weightOf", containers[id][0], x.weightOf(id));
            Check.due("keyOf", containers[id][1], x.keyOf(id));
            Check.due("answerOf", containers[id][2], x.answerOf(id));
        }
    }

    private static void places() {
        ContainerTerminal x = new ContainerTerminal();
        x.moor(0, 4, 50);
        x.moor(2, 4, 50);
        x.stow(0, 3, 1, 1);
        x.stow(2, 0, 1, 1);
        x.stow(2, 0, 2, 1);
        x.stow(2, 1, 1, 1);
        placeIs(x, 0, 0, 3, 0);
        placeIs(x, 1, 2, 0, 0);
        placeIs(x, 2, 2, 0, 1);
        placeIs(x, 3, 2, 1, 0);
        x.move(2, 0, 1);
        placeIs(x, 2, 2, 1, 1);
        x.move(2, 1, 3);
        placeIs(x, 2, 2, 3, 0);
        Check.clearRight(x, 2, 3);
        Check.notFound("berthOf, in the yard", () -> x.berthOf(2));
        Check.notFound("stackOf, in the yard", () -> x.stackOf(2));
        Check.notFound("levelOf, in the yard", () -> x.levelOf(2));
        Check.notFound("movesToReach, in the yard", () -> x.movesToReach(2));
        Check.notFound("movesToReachByCopy, in the yard", () -> x.movesToReachByCopy(2));
        Check.notFound("heaviestAbove, in the yard", () -> x.heaviestAbove(2));
    }

    private static void placeIs(ContainerTerminal x, int id, int berth, int stack, int level) {
        Check.due("berthOf", berth, x.berthOf(id));
        Check.due("stackOf", stack, x.stackOf(id));
        Check.due("levelOf", level, x.levelOf(id));
    }

    private static void digging() {
        ContainerTerminal x = Check.stacked(5, 4, 3, 2, 1);
        x.stow(0, 1, 7, 7);
        int[] moves = {4, 3, 2, 1, 0, 0};
        for (int id = 0; id < moves.length; id++) {
            Check.due("movesToReach", moves[id], x.movesToReach(id));
            Check.due("movesToReachByCopy", moves[id], x.movesToReachByCopy(id));
        }
        x.move(0, 0, 1);
        x.move(0, 0, 1);
        int[] later = {2, 1, 0, 0, 1, 2};
        for (int id = 0; id < later.length; id++) {
            Check.due("movesToReach", later[id], x.movesToReach(id));
            Check.due("movesToReachByCopy", later[id], x.movesToReachByCopy(id));
        }
        Check.due("the stack itself stays", 3, x.stackHeight(0, 0));
        ContainerTerminal y = Check.stacked(1);
        y.stow(0, 1, 2, 2);
        y.move(0, 0, 1);
        Check.due("the first container above", 1, y.movesToReach(1));
        Check.due("the first container above", 1, y.movesToReachByCopy(1));
        Check.due("the first container above", 0, y.heaviestAbove(1));
    }

    private static void heaviestAbove() {
        ContainerTerminal x = Check.stacked(30, 2, 5, 4, 5);
        Check.due("the lower id of two", 2, x.heaviestAbove(0));
        Check.due("heaviestAbove", 2, x.heaviestAbove(1));
        Check.due("heaviestAbove", 4, x.heaviestAbove(2));
        Check.due("heaviestAbove", 4, x.heaviestAbove(3));
        Check.notFound("none above", () -> x.heaviestAbove(4));
        x.stow(0, 1, 30, 0);
        Check.due("not on another stack", 2, x.heaviestAbove(0));
        Check.notFound("none above", () -> x.heaviestAbove(5));
        x.move(0, 0, 1);
        x.move(0, 0, 2);
        x.move(0, 0, 1);
        Check.due("the lower id lies higher", 2, x.heaviestAbove(5));
        Check.due("the upper one", 2, x.heaviestAbove(4));
    }

    private static void byWeight() {
        ContainerTerminal x = Check.stacked(4, 9, 4);
        x.moor(2, 4, 50);
        x.stow(2, 3, 9, 1);
        x.stow(2, 2, 30, 1);
        int[] ids = {4, 1, 3, 0, 2};
        for (int rank = 0; rank < ids.length; rank++) {
            Check.due("containerByWeight " + rank, ids[rank], x.containerByWeight(rank));
        }
        for (int rank : new int[] {Integer.MIN_VALUE, -1, 5, Integer.MAX_VALUE}) {
            Check.notFound("containerByWeight", () -> x.containerByWeight(rank));
        }
        Check.clearRight(x, 2, 2);
        Check.due("not in the yard", 1, x.containerByWeight(0));
        Check.notFound("not in the yard", () -> x.containerByWeight(4));
        Check.notFound("no containers", () -> new ContainerTerminal().containerByWeight(0));
    }

    private static void strangersAreNotFound() {
        ContainerTerminal x = Check.stacked(1, 2);
        Check.clearRight(x, 0, 0);
        x.deliver(1);
        notFound("weightOf", x::weightOf);
        notFound("keyOf", x::keyOf);
        notFound("answerOf", x::answerOf);
        notFound("berthOf", x::berthOf);
        notFound("stackOf", x::stackOf);
        notFound("levelOf", x::levelOf);
        notFound("movesToReach", x::movesToReach);
        notFound("movesToReachByCopy", x::movesToReachByCopy);
        notFound("heaviestAbove", x::heaviestAbove);
    }

    private static void notFound(String call, IntFunction<Object> made) {
        for (int id : new int[] {Integer.MIN_VALUE, -1, 1, 2, 75, 512, Integer.MAX_VALUE}) {
            Check.notFound(call + " " + id, () -> made.apply(id));
        }
    }
}
