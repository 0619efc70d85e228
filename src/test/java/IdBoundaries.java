import static java.lang.Integer.MAX_VALUE;
import static java.lang.Integer.MIN_VALUE;

import java.util.NoSuchElementException;

/** The boundary cases of promises 28 to 39 and 42 to 46: containers by their ids, keys, and the yard. */
final class IdBoundaries {
    private static final Class<NoSuchElementException> NOT_FOUND = NoSuchElementException.class;
    private static final String ON_SHIP = "no container with this id is on a ship";

    private IdBoundaries() {
    }

    static void run() {
        whereItIs();
        wherever();
        onShipsOnly();
        heaviestAbove();
        byWeight();
        keys();
        yard();
    }

    private static void whereItIs() {
        Boundary.test(28, "Returns true if a container with this id is on a ship.", () -> {
            idsAre(ContainerTerminal::isOnShip, 0, 1, 2, 3, 4, 5, 6, 7);
        });
        Boundary.test(28, "any id", () -> Places.goes(Scenes::busy, x -> x.isOnShip(MIN_VALUE)));
        Boundary.test(29, "Returns true if a container with this id is in the yard.", () -> {
            idsAre(ContainerTerminal::isInYard, 8, 9);
        });
        Boundary.test(29, "any id", () -> Places.goes(Scenes::busy, x -> x.isInYard(MAX_VALUE)));
    }

    /** On the busy terminal, the question is true for these ids and for no others. */
    private static void idsAre(Scenes.Numbered question, int... ids) {
        ContainerTerminal x = Scenes.busy();
        for (int id = -2; id <= 20; id++) {
            boolean among = id >= ids[0] && id <= ids[ids.length - 1];
            Boundary.due("id " + id, among, question.on(x, id));
        }
        Boundary.due("the lowest id", false, question.on(x, MIN_VALUE));
        Boundary.due("the highest id", false, question.on(x, MAX_VALUE));
        Boundary.due("no containers", false, question.on(new ContainerTerminal(), 0));
        x.deliver(8);
        Boundary.due("a delivered one", false, question.on(x, 8));
    }

    /** These tell of containers on ships and in the yard, until they are delivered. */
    private static void wherever() {
        wherever(30, ContainerTerminal::weightOf);
        wherever(31, ContainerTerminal::keyOf);
        wherever(32, ContainerTerminal::answerOf);
        Boundary.test(32, "Returns the answer, 0 to 9.", IdBoundaries::answers);
    }

    private static void wherever(int promise, Scenes.Numbered question) {
        Boundary.test(promise, ON_SHIP, () -> {
            Places.notFound(Scenes::busy, question, MIN_VALUE, -1, 10, 11, MAX_VALUE);
            Places.notFound(ContainerTerminal::new, question, -1, 0, 1);
            Places.goes(Scenes::busy, x -> question.on(x, 0));
            Places.goes(Scenes::busy, x -> question.on(x, 7));
        });
        Boundary.test(promise, "or in the yard", () -> {
            Places.goes(Scenes::busy, x -> question.on(x, 8));
            Places.goes(Scenes::busy, x -> question.on(x, 9));
            Places.notFound(IdBoundaries::delivered, question, 8);
            Places.goes(IdBoundaries::delivered, x -> question.on(x, 9));
        });
    }

    private static ContainerTerminal delivered() {
        ContainerTerminal x = Scenes.busy();
        x.deliver(8);
        return x;
    }

    private static void answers() {
        boolean[] told = new boolean[10];
        for (int weight = 1; weight <= 10; weight++) {
            ContainerTerminal x = Scenes.threeShips();
            int answer = x.answerOf(x.stow(0, 0, weight, 99));
            Boundary.due("weight " + weight, (693 + weight) % 10, answer);
            told[answer] = true;
        }
        for (int answer = 0; answer <= 9; answer++) {
            Boundary.due("one container has the answer " + answer, true, told[answer]);
        }
    }

    private static void onShipsOnly() {
        onShips(33, ContainerTerminal::berthOf, 2);
        onShips(34, ContainerTerminal::stackOf, 3);
        onShips(35, ContainerTerminal::levelOf, 0);
        onShips(36, ContainerTerminal::movesToReach, 0);
        onShips(37, ContainerTerminal::movesToReachByCopy, 0);
        Boundary.test(35, "Returns the level of a container on its stack.", () -> {
            for (int id = 0; id < 5; id++) {
                int level = id;
                Boundary.answers(level, Scenes::busy, x -> x.levelOf(level));
            }
        });
        Boundary.test(36, "Returns the number of containers above a container.",
            () -> above(ContainerTerminal::movesToReach));
        Boundary.test(37, "until the container is on the top", () -> above(ContainerTerminal::movesToReachByCopy));
    }

    /** The last container of the loaded terminal, 11, stands alone on stack 3 at berth 2. */
    private static void onShips(int promise, Scenes.Numbered question, Object last) {
        Boundary.test(promise, ON_SHIP, () -> {
            Places.notFound(Scenes::busy, question, MIN_VALUE, -1, 8, 9, 10, 11, MAX_VALUE);
            Places.notFound(IdBoundaries::delivered, question, 8);
            Places.notFound(ContainerTerminal::new, question, -1, 0, 1);
            Boundary.answers(0, Scenes::loaded, x -> question.on(x, 0));
            Boundary.answers(last, Scenes::loaded, x -> question.on(x, 11));
            Places.notFound(Scenes::loaded, question, 12);
        });
    }

    private static void above(Scenes.Numbered question) {
        for (int id = 0; id < 5; id++) {
            int place = id;
            Boundary.answers(4 - id, Scenes::busy, x -> question.on(x, place));
        }
        Boundary.answers(0, Scenes::busy, x -> question.on(x, 5));
        Boundary.answers(1, () -> Check.stacked(1, 2), x -> question.on(x, 0));
    }

    private static void heaviestAbove() {
        Boundary.test(38, ON_SHIP, () -> {
            Places.notFound(Scenes::busy, ContainerTerminal::heaviestAbove, MIN_VALUE, -1, 8, 9, 10, MAX_VALUE);
            Boundary.answers(4, Scenes::busy, x -> x.heaviestAbove(0));
        });
        Boundary.test(38, "none is above it", () -> {
            Places.notFound(Scenes::busy, ContainerTerminal::heaviestAbove, 4, 5, 6, 7);
            Boundary.answers(4, Scenes::busy, x -> x.heaviestAbove(3));
        });
        Boundary.test(38, "Of several such containers it is the one with the lowest id.", IdBoundaries::heaviestTies);
    }

    private static void heaviestTies() {
        Boundary.answers(1, () -> Check.stacked(30, 9, 9, 9, 9), x -> x.heaviestAbove(0));
        Boundary.answers(2, () -> Check.stacked(30, 8, 9, 9, 9), x -> x.heaviestAbove(0));
        Boundary.answers(4, () -> Check.stacked(1, 8, 8, 8, 9), x -> x.heaviestAbove(0));
        Boundary.answers(3, () -> Check.stacked(1, 30, 8, 9, 9), x -> x.heaviestAbove(1));
        ContainerTerminal x = Check.stacked(9, 9, 9);
        x.stow(0, 1, 30, 30);
        x.move(0, 0, 1);
        x.move(0, 0, 1);
        x.move(0, 0, 1);
        Boundary.due("the lowest id at the top", 0, x.heaviestAbove(3));
        Boundary.due("the lowest id above the middle", 0, x.heaviestAbove(2));
    }

    private static void byWeight() {
        Boundary.test(39, "the rank, starting at 0", () -> {
            Places.positions(8, Scenes::busy, ContainerTerminal::containerByWeight);
            Boundary.answers(11, Scenes::loaded, x -> x.containerByWeight(0));
            Boundary.answers(0, Scenes::loaded, x -> x.containerByWeight(11));
        });
        Boundary.test(39, "there is no such rank", () -> {
            Places.positions(0, ContainerTerminal::new, ContainerTerminal::containerByWeight);
            Places.positions(1, () -> Check.stacked(30), ContainerTerminal::containerByWeight);
            Places.positions(12, Scenes::loaded, ContainerTerminal::containerByWeight);
            Boundary.refuses(NOT_FOUND, IdBoundaries::oneInYard, x -> x.containerByWeight(0));
        });
        Boundary.test(39, "greater weight first, then lower id", IdBoundaries::ranks);
    }

    private static ContainerTerminal oneInYard() {
        ContainerTerminal x = Check.stacked(5);
        Check.clearRight(x, 0, 0);
        return x;
    }

    private static void ranks() {
        ContainerTerminal x = Check.stacked(1, 30, 1, 30, 15);
        x.move(0, 0, 2);
        x.move(0, 0, 3);
        int[] ids = {1, 3, 4, 0, 2};
        for (int rank = 0; rank < 5; rank++) {
            Boundary.due("rank " + rank, ids[rank], x.containerByWeight(rank));
        }
        ContainerTerminal same = Scenes.threeShips();
        for (int id = 0; id < 60; id++) {
            same.stow(id % 3, id / 3 % 4, 7, id);
        }
        Boundary.due("60 of one weight", "0 1 59", same.containerByWeight(0) + " " + same.containerByWeight(1) + " "
            + same.containerByWeight(59));
        Boundary.throwsDue(NOT_FOUND, same, y -> y.containerByWeight(60));
    }

    private static void keys() {
        Boundary.test(42, "Returns the number of different keys", IdBoundaries::differentKeys);
        Boundary.test(43, "pairs of containers on ships and in the yard that have the same key and the same weight",
            () -> twins(ContainerTerminal::keyTwins));
        Boundary.test(44, "Returns the same number as keyTwins", () -> twins(ContainerTerminal::keyTwinsByGroups));
    }

    private static void differentKeys() {
        Boundary.answers(0, ContainerTerminal::new, ContainerTerminal::differentKeys);
        Boundary.answers(1, () -> Check.stacked(5), ContainerTerminal::differentKeys);
        Boundary.answers(1, () -> Check.stacked(5, 5, 5, 5, 5), ContainerTerminal::differentKeys);
        Boundary.answers(5, () -> Check.stacked(1, 2, 3, 4, 5), ContainerTerminal::differentKeys);
        Boundary.answers(1, IdBoundaries::oneInYard, ContainerTerminal::differentKeys);
        Boundary.answers(10, Scenes::busy, ContainerTerminal::differentKeys);
        ContainerTerminal x = oneInYard();
        x.stow(0, 3, 7, 5);
        Boundary.due("one in the yard and one on a ship", 1, x.differentKeys());
        x.deliver(0);
        Boundary.due("the last one's key", 1, x.differentKeys());
        x.stow(0, 2, 7, 0);
        x.stow(0, 2, 7, 99);
        Boundary.due("the lowest and the highest key", 3, x.differentKeys());
    }

    private static void twins(Boundary.Step question) {
        Boundary.answers(0, ContainerTerminal::new, question);
        Boundary.answers(0, () -> Check.stacked(7), question);
        Boundary.answers(1, () -> Check.stacked(7, 7), question);
        Boundary.answers(3, () -> Check.stacked(7, 8, 7, 7), question);
        Boundary.answers(10, () -> Check.stacked(7, 7, 7, 7, 7), question);
        Boundary.answers(1, () -> Check.stacked(9, 7, 7), question);
        Boundary.answers(2, () -> Check.stacked(9, 8, 7, 8, 9), question);
        Boundary.answers(4, () -> Check.stacked(9, 8, 8, 9, 9), question);
        Boundary.answers(0, Scenes::loaded, question);
        ContainerTerminal x = Scenes.threeShips();
        x.stow(0, 0, 7, 8);
        x.stow(1, 0, 8, 7);
        x.stow(2, 0, 7, 7);
        Boundary.due("the same key or the same weight alone", 0, question.on(x));
        x.stow(2, 3, 7, 8);
        Boundary.due("on two ships", 1, question.on(x));
        Check.clearRight(x, 0, 0);
        Boundary.due("one in the yard", 1, question.on(x));
        Check.clearRight(x, 2, 3);
        Boundary.due("both in the yard", 1, question.on(x));
        x.deliver(0);
        Boundary.due("one delivered", 0, question.on(x));
        Boundary.answers(75 * 74 / 2, IdBoundaries::allAlike, question);
    }

    /** 60 containers on the ships and 15 in the yard, all of one key and one weight: no terminal holds more. */
    private static ContainerTerminal allAlike() {
        ContainerTerminal x = Scenes.threeShips();
        for (int id = 0; id < 75; id++) {
            x.stow(id % 3, id / 3 % 4, 10, 10);
            if (id < 15) {
                x.clear(id % 3, id / 3 % 4, 0);
            }
        }
        return x;
    }

    private static void yard() {
        Boundary.test(45, "Returns the number of containers in the yard.", () -> {
            for (int count = 0; count <= 15; count++) {
                int due = count;
                Boundary.answers(due, () -> Scenes.yard(due), ContainerTerminal::yardCount);
            }
        });
        Boundary.test(46, "the position, starting at 0", () -> {
            Boundary.answers(9, Scenes::busy, x -> x.yardAt(0));
            Boundary.answers(8, Scenes::busy, x -> x.yardAt(1));
            Boundary.refuses(NOT_FOUND, Scenes::busy, x -> x.yardAt(-1));
        });
        Boundary.test(46, "the yard has no such position", () -> {
            for (int count : new int[] {0, 1, 2, 14, 15}) {
                Places.positions(count, () -> Scenes.yard(count), ContainerTerminal::yardAt);
            }
            Places.positions(1, IdBoundaries::delivered, ContainerTerminal::yardAt);
        });
    }
}
