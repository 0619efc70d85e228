import static java.lang.Integer.MAX_VALUE;
import static java.lang.Integer.MIN_VALUE;

/** The boundary cases of the Terms on ships, containers, digging, and hours and tides. */
final class ShipBoundaries {
    private static final Class<IndexOutOfBoundsException> BOUNDS = IndexOutOfBoundsException.class;
    private static final Class<IllegalArgumentException> ARGUMENT = IllegalArgumentException.class;
    private static final Class<IllegalStateException> STATE = IllegalStateException.class;

    private ShipBoundaries() {
    }

    static void run() {
        terms("Only the top container of a stack can be moved, so a container below waits for the ones above it.",
            ShipBoundaries::onlyTheTop);
        terms("There are the berths 0 to 2", ShipBoundaries::berths);
        terms("at most one ship is moored at a berth", ShipBoundaries::oneShip);
        terms("A ship has a draught from 1 to 9", ShipBoundaries::draughts);
        terms("the stacks 0 to 3", ShipBoundaries::stacks);
        terms("each with at most 5 containers", ShipBoundaries::fiveContainers);
        terms("The levels of a stack are counted from 0 at the bottom.", ShipBoundaries::levels);
        terms("A container has a weight from 1 to 30", ShipBoundaries::weights);
        terms("a key from 0 to 99", ShipBoundaries::keys);
        terms("the first container has id 0", ShipBoundaries::firstId);
        terms("each further container has the id of the container stowed before it plus 1", ShipBoundaries::idsGoOn);
        terms("Undo and restore also take back the next free id.", ShipBoundaries::idsTakenBack);
        terms("The number of containers above a container on its stack is the number of moves that are needed before "
            + "it can be cleared.", ShipBoundaries::digging);
        terms("Containers can be moved from the top of a stack to the top of another stack of the same ship.",
            ShipBoundaries::topToTop);
    }

    private static void terms(String words, Runnable test) {
        Boundary.test(Boundary.TERMS, words, test);
    }

    private static void onlyTheTop() {
        ContainerTerminal x = Check.stacked(3, 4, 5);
        // The answers are 4, 2 and 0: those of the containers below are wrong for the top one.
        Boundary.due("the lowest one's answer", false, x.clear(0, 0, 4));
        Boundary.due("the middle one's answer", false, x.clear(0, 0, 2));
        for (int id = 2; id >= 0; id--) {
            Boundary.due("the top is moved", id, x.move(0, 0, 1));
            Boundary.due("the others stay", id, x.stackHeight(0, 0));
        }
        Boundary.throwsDue(STATE, x, y -> y.move(0, 0, 1));
        Boundary.due("the top is cleared", true, x.clear(0, 1, 4));
    }

    private static void berths() {
        for (int berth : new int[] {MIN_VALUE, -1, 3, MAX_VALUE}) {
            Boundary.refuses(BOUNDS, ContainerTerminal::new, x -> x.moor(berth, 4, 9));
            Boundary.refuses(BOUNDS, Scenes::busy, x -> x.moor(berth, 4, 9));
        }
        for (int berth = 0; berth < 3; berth++) {
            int place = berth;
            Boundary.answers(1, ContainerTerminal::new, x -> x.moor(place, 4, 9));
        }
    }

    private static void oneShip() {
        for (int berth = 0; berth < 3; berth++) {
            int place = berth;
            Boundary.refuses(STATE, Scenes::threeShips, x -> x.moor(place, 4, 9));
            ContainerTerminal x = Scenes.threeShips();
            x.leave(berth);
            Boundary.due("a ship after the one that left", 3, x.moor(berth, 5, 9));
            Boundary.throwsDue(STATE, x, y -> y.moor(place, 5, 9));
        }
    }

    private static void draughts() {
        for (int draught : new int[] {MIN_VALUE, -1, 0, 10, 11, MAX_VALUE}) {
            Boundary.refuses(ARGUMENT, Scenes::busy, x -> x.moor(1, draught, 9));
        }
        for (int draught : new int[] {1, 2, 8, 9}) {
            ContainerTerminal x = new ContainerTerminal();
            x.moor(1, draught, 9);
            Boundary.due("draught", draught, x.draught(1));
        }
    }

    private static void stacks() {
        for (int stack : new int[] {MIN_VALUE, -1, 4, MAX_VALUE}) {
            Boundary.refuses(BOUNDS, Scenes::busy, x -> x.stow(0, stack, 1, 1));
            Boundary.refuses(BOUNDS, Scenes::busy, x -> x.stackHeight(0, stack));
        }
        ContainerTerminal x = Scenes.threeShips();
        for (int place = 0; place < 12; place++) {
            Boundary.due("the empty stack", 0, x.stackHeight(place / 4, place % 4));
            Boundary.due("stow", place, x.stow(place / 4, place % 4, 1, 1));
            Boundary.due("the stack", 1, x.stackHeight(place / 4, place % 4));
        }
    }

    private static void fiveContainers() {
        for (int place = 0; place < 12; place++) {
            int berth = place / 4;
            int stack = place % 4;
            Boundary.answers(5, () -> filled(berth, stack, 5), x -> x.stackHeight(berth, stack));
            Boundary.answers(4, () -> filled(berth, stack, 4), x -> x.stow(berth, stack, 1, 1));
            Boundary.refuses(STATE, () -> filled(berth, stack, 5), x -> x.stow(berth, stack, 1, 1));
            int other = (stack + 1) % 4;
            Boundary.answers(4, () -> besides(berth, stack, 4), x -> x.move(berth, other, stack));
            Boundary.refuses(STATE, () -> besides(berth, stack, 5), x -> x.move(berth, other, stack));
        }
    }

    private static ContainerTerminal filled(int berth, int stack, int count) {
        ContainerTerminal x = Scenes.threeShips();
        for (int number = 0; number < count; number++) {
            x.stow(berth, stack, 1, 1);
        }
        return x;
    }

    private static ContainerTerminal besides(int berth, int stack, int count) {
        ContainerTerminal x = filled(berth, stack, count);
        x.stow(berth, (stack + 1) % 4, 1, 1);
        return x;
    }

    private static void levels() {
        for (int height = 1; height <= 5; height++) {
            ContainerTerminal x = filled(1, 2, height);
            for (int level = 0; level < height; level++) {
                Boundary.due("containerAt", level, x.containerAt(1, 2, level));
                Boundary.due("levelOf", level, x.levelOf(level));
            }
            for (int level : new int[] {MIN_VALUE, -1, height, MAX_VALUE}) {
                Boundary.throwsDue(java.util.NoSuchElementException.class, x, y -> y.containerAt(1, 2, level));
            }
        }
    }

    private static void weights() {
        for (int weight : new int[] {MIN_VALUE, -1, 0, 31, 32, MAX_VALUE}) {
            Boundary.refuses(ARGUMENT, Scenes::busy, x -> x.stow(0, 1, weight, 50));
        }
        for (int weight : new int[] {1, 2, 29, 30}) {
            ContainerTerminal x = Scenes.threeShips();
            Boundary.due("weightOf", weight, x.weightOf(x.stow(0, 1, weight, 50)));
        }
    }

    private static void keys() {
        for (int key : new int[] {MIN_VALUE, -1, 100, 101, MAX_VALUE}) {
            Boundary.refuses(ARGUMENT, Scenes::busy, x -> x.stow(0, 1, 15, key));
        }
        for (int key : new int[] {0, 1, 98, 99}) {
            ContainerTerminal x = Scenes.threeShips();
            Boundary.due("keyOf", key, x.keyOf(x.stow(0, 1, 15, key)));
        }
    }

    private static void firstId() {
        for (int place = 0; place < 12; place++) {
            ContainerTerminal x = Scenes.threeShips();
            int berth = place / 4;
            Boundary.throwsDue(ARGUMENT, x, y -> y.stow(berth, 0, 0, 0));
            Boundary.due("the first id", 0, x.stow(berth, place % 4, 30, 99));
            Boundary.due("the first container", true, x.isOnShip(0));
        }
    }

    private static void idsGoOn() {
        ContainerTerminal x = Scenes.threeShips();
        for (int id = 0; id < 6; id++) {
            Boundary.due("on one berth after another", id, x.stow(id % 3, 3 - id % 4, 2, 1));
        }
        Boundary.throwsDue(ARGUMENT, x, y -> y.stow(0, 0, 31, 0));
        Boundary.due("after a refused one", 6, x.stow(0, 1, 2, 2));
        Check.clearRight(x, 0, 1);
        Boundary.due("after one was cleared", 7, x.stow(0, 1, 2, 2));
        x.deliver(6);
        Boundary.due("after one was delivered", 8, x.stow(0, 1, 2, 2));
        Check.clearRight(x, 0, 1);
        x.deliver(8);
        Boundary.due("after the latest one was delivered", 9, x.stow(0, 1, 2, 2));
        x.move(0, 1, 2);
        x.pass(1);
        Boundary.due("after other changes", 10, x.stow(0, 1, 2, 2));
        Boundary.due("in a program", 1, Check.run(x, "stow 01 2/2"));
        Boundary.due("after a program", 12, x.stow(0, 1, 2, 2));
    }

    private static void idsTakenBack() {
        ContainerTerminal x = Scenes.loaded();
        x.save();
        x.stow(0, 0, 1, 1);
        x.undo();
        Boundary.due("after an undo", 12, x.stow(1, 0, 2, 2));
        Check.run(x, "stow 00 1/1;stow 01 1/1");
        x.undo();
        Boundary.due("after the undo of a program", 13, x.stow(2, 0, 3, 3));
        Check.run(x, "stow 00 1/1;stow 01 1/1;leave 0");
        Boundary.due("after a program that failed", 14, x.stow(2, 1, 3, 3));
        x.undo();
        x.undo();
        x.undo();
        Boundary.due("after several", 12, x.stow(0, 3, 4, 4));
        Boundary.due("it is the new container", "4 0", x.weightOf(12) + " " + x.berthOf(12));
        x.stow(0, 3, 5, 5);
        x.restore();
        Boundary.due("after restore", 12, x.stow(0, 2, 6, 6));
        Check.clearRight(x, 0, 2);
        x.deliver(12);
        x.undo();
        x.undo();
        Boundary.due("a cleared one keeps its id", 13, x.stow(0, 1, 7, 7));
        x.restore();
        Boundary.due("after a second restore", 12, x.stow(0, 1, 8, 8));
        x.undo();
        Boundary.due("none of it is left", false, x.isOnShip(12));
    }

    private static void digging() {
        for (int height = 1; height <= 5; height++) {
            ContainerTerminal x = filled(2, 3, height);
            for (int level = 0; level < height; level++) {
                Boundary.due("movesToReach", height - 1 - level, x.movesToReach(level));
                Boundary.due("movesToReachByCopy", height - 1 - level, x.movesToReachByCopy(level));
            }
            for (int moves = 1; moves < height; moves++) {
                x.move(2, 3, moves % 3);
                Boundary.due("after a move", height - 1 - moves, x.movesToReach(0));
            }
            Boundary.due("then it can be cleared", true, Check.clearRight(x, 2, 3));
            Boundary.due("cleared", true, x.isInYard(0));
        }
        ContainerTerminal y = Check.stacked(1);
        y.stow(0, 1, 2, 2);
        y.move(0, 0, 1);
        Boundary.due("the first container above a later one", "1 0", y.movesToReach(1) + " " + y.movesToReach(0));
        Boundary.due("by copy", "1 0", y.movesToReachByCopy(1) + " " + y.movesToReachByCopy(0));
    }

    private static void topToTop() {
        for (int from = 0; from < 4; from++) {
            for (int to = 0; to < 4; to++) {
                if (from != to) {
                    ContainerTerminal x = Scenes.loaded();
                    Boundary.due("moved", 4 + from, x.move(1, from, to));
                    Boundary.due("upon the other one", 1, x.levelOf(4 + from));
                    Boundary.due("the heights", "0 2", x.stackHeight(1, from) + " " + x.stackHeight(1, to));
                    Boundary.due("to the stack", "1 " + to, x.berthOf(4 + from) + " " + x.stackOf(4 + from));
                    Boundary.due("and back to the empty one", 4 + from, x.move(1, to, from));
                    Boundary.due("at the bottom", 0, x.levelOf(4 + from));
                }
            }
        }
    }
}
