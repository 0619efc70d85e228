import java.util.NoSuchElementException;

/** The boundary cases of promises 9 to 27, 40 and 41: hours, ships, and the stacks of a ship. */
final class BerthBoundaries {
    private static final Class<NoSuchElementException> NOT_FOUND = NoSuchElementException.class;
    private static final String BERTH = "there is no such berth";
    private static final String STACK = "or stack";
    private static final String NO_SHIP = "no ship is moored at the berth";

    private BerthBoundaries() {
    }

    static void run() {
        hoursAndShips();
        askedAtAnyBerth();
        askedOfShips();
        askedOfStacks();
        numbers();
        ties();
    }

    private static void hoursAndShips() {
        Boundary.test(9, "Returns the hour counter.", () -> {
            Boundary.answers(0, ContainerTerminal::new, ContainerTerminal::hour);
            Boundary.answers(3, Scenes::busy, ContainerTerminal::hour);
        });
        Boundary.test(10, "Returns the tide, 0 to 6.", BerthBoundaries::tides);
        Boundary.test(10, "Returns the tide at the present hour.", BerthBoundaries::tideNow);
        Boundary.test(15, "Returns whether a ship floats at the present hour.", BerthBoundaries::floatsNow);
        Boundary.test(11, "Returns the number of ships that are moored.", BerthBoundaries::shipCount);
    }

    private static void tides() {
        ContainerTerminal x = new ContainerTerminal();
        Boundary.due("the lowest", 0, x.tide());
        for (int hour = 1; hour <= 36; hour++) {
            x.pass(1);
            Boundary.due("lowest at hour " + hour, hour % 12 == 0, x.tide() == 0);
            Boundary.due("highest at hour " + hour, hour % 12 == 6, x.tide() == 6);
            Boundary.due("within 0 to 6 at hour " + hour, true, x.tide() >= 0 && x.tide() <= 6);
        }
    }

    private static void tideNow() {
        ContainerTerminal x = new ContainerTerminal();
        x.pass(6);
        Boundary.due("at hour 6", 6, x.tide());
        x.feesAfter(1);
        Boundary.due("after feesAfter", 6, x.tide());
        x.pass(1);
        Boundary.due("at hour 7", 5, x.tide());
        x.undo();
        Boundary.due("after undo", 6, x.tide());
    }

    /** A draught of 5 floats at the hours 1 to 11 of the twelve, and one of 9 at hour 5, 6 and 7. */
    private static void floatsNow() {
        ContainerTerminal x = new ContainerTerminal();
        x.moor(0, 5, 50);
        x.moor(2, 9, 50);
        x.moor(1, 4, 50);
        for (int hour = 0; hour <= 13; hour++) {
            Boundary.due("draught 5 at hour " + hour, hour != 0 && hour != 12, x.floats(0));
            Boundary.due("draught 9 at hour " + hour, hour >= 5 && hour <= 7, x.floats(2));
            Boundary.due("draught 4 at hour " + hour, true, x.floats(1));
            x.pass(1);
        }
    }

    private static void shipCount() {
        Boundary.answers(0, ContainerTerminal::new, ContainerTerminal::shipCount);
        Boundary.answers(1, Check::stacked, ContainerTerminal::shipCount);
        Boundary.answers(2, () -> Scenes.without(1), ContainerTerminal::shipCount);
        Boundary.answers(3, Scenes::loaded, ContainerTerminal::shipCount);
        ContainerTerminal x = Scenes.threeShips();
        x.leave(1);
        Boundary.due("after one left", 2, x.shipCount());
        x.undo();
        Boundary.due("after that was undone", 3, x.shipCount());
    }

    /** These answer at each of the berths 0 to 2, with a ship and without one. */
    private static void askedAtAnyBerth() {
        atAnyBerth(12, ContainerTerminal::isMoored, false, true);
        atAnyBerth(19, ContainerTerminal::canLeave, false, true);
        atAnyBerth(20, ContainerTerminal::lockedHours, 0, 0);
        atAnyBerth(21, ContainerTerminal::wrongAnswers, 0, 0);
        atAnyBerth(56, ContainerTerminal::formatBerth, 4, 12);
        Boundary.test(20, "Returns the number of hours, 0 if it is not locked.", BerthBoundaries::lockedHours);
        Boundary.test(21, "Returns the number, 0 to 2.", BerthBoundaries::wrongAnswers);
        Boundary.test(19, "Returns whether leave would return normally now.", BerthBoundaries::canLeave);
    }

    private static void atAnyBerth(int promise, Scenes.Numbered question, Object withoutShip, Object withShip) {
        Boundary.test(promise, BERTH, () -> {
            Places.noBerth(ContainerTerminal::new, question);
            Places.noBerth(Scenes::threeShips, question);
            for (int berth = 0; berth < 3; berth++) {
                int place = berth;
                Boundary.answers(withoutShip, () -> Scenes.without(place), x -> question.on(x, place));
                Boundary.answers(withShip, Scenes::threeShips, x -> question.on(x, place));
            }
        });
    }

    private static void lockedHours() {
        for (int wrong = 0; wrong <= 2; wrong++) {
            int count = wrong;
            Boundary.answers(0, () -> Scenes.wrong(count), x -> x.lockedHours(0));
        }
        for (int hours = 0; hours <= 3; hours++) {
            ContainerTerminal x = Scenes.wrong(3);
            for (int passed = 0; passed < hours; passed++) {
                x.pass(1);
            }
            Boundary.due("after " + hours + " hours", Math.max(0, 2 - hours), x.lockedHours(0));
            Boundary.due("the next berth", 0, x.lockedHours(1));
        }
    }

    private static void wrongAnswers() {
        int[] due = {0, 1, 2, 0};
        for (int wrong = 0; wrong <= 3; wrong++) {
            int count = wrong;
            Boundary.answers(due[wrong], () -> Scenes.wrong(count), x -> x.wrongAnswers(0));
            Boundary.answers(0, () -> Scenes.wrong(count), x -> x.wrongAnswers(1));
        }
    }

    private static void canLeave() {
        for (int draught = 1; draught <= 9; draught++) {
            for (int load = 0; load <= 1; load++) {
                ContainerTerminal x = new ContainerTerminal();
                x.pass(2);
                x.moor(1, draught, 50);
                for (int id = 0; id < load; id++) {
                    x.stow(1, 3, 1, 1);
                }
                Object due = draught <= 6 && load == 0 ? 0 : "throws java.lang.IllegalStateException";
                Boundary.due("canLeave", draught <= 6 && load == 0, x.canLeave(1));
                Boundary.due("leave", due, Check.outcome(() -> x.leave(1)));
            }
        }
    }

    private static void askedOfShips() {
        ofShips(13, ContainerTerminal::draught, 4);
        ofShips(14, ContainerTerminal::dueHour, 100);
        ofShips(15, ContainerTerminal::floats, true);
        ofShips(16, ContainerTerminal::hoursUntilFloating, 0);
        ofShips(17, ContainerTerminal::hoursUntilFloatingByTide, 0);
        ofShips(25, ContainerTerminal::containersOn, 0);
        ofShips(26, ContainerTerminal::weightOn, 0);
        ofShips(27, ContainerTerminal::weightOnByContainers, 0);
        ofShips(40, ContainerTerminal::emptiestStack, 0);
    }

    private static void ofShips(int promise, Scenes.Numbered question, Object withShip) {
        Boundary.test(promise, BERTH, () -> Places.noBerth(Scenes::threeShips, question));
        Boundary.test(promise, NO_SHIP, () -> {
            Places.noShipFound(question);
            for (int berth = 0; berth < 3; berth++) {
                int place = berth;
                Boundary.answers(withShip, Scenes::threeShips, x -> question.on(x, place));
                Boundary.refuses(NOT_FOUND, ContainerTerminal::new, x -> question.on(x, place));
            }
        });
    }

    private static void askedOfStacks() {
        ofStacks(22, ContainerTerminal::stackHeight);
        ofStacks(23, (x, berth, stack) -> x.containerAt(berth, stack, 0));
        ofStacks(24, ContainerTerminal::topOf);
        ofStacks(41, ContainerTerminal::heavyOverLight);
        ofStacks(55, ContainerTerminal::formatStack);
        Boundary.test(22, "Returns the number of containers on a stack.", BerthBoundaries::heights);
        Boundary.test(23, "the level, starting at 0",
            () -> Places.positions(1, Scenes::loaded, (x, level) -> x.containerAt(2, 3, level)));
        Boundary.test(23, "the stack has no such level", BerthBoundaries::levels);
        Boundary.test(24, "the stack has no containers", BerthBoundaries::topOfNone);
    }

    private static void ofStacks(int promise, Scenes.Placed question) {
        Boundary.test(promise, BERTH, () -> Places.noBerth(Scenes::loaded, (x, berth) -> question.on(x, berth, 1)));
        Boundary.test(promise, STACK, () -> Places.noStack(Scenes::loaded, question));
        Boundary.test(promise, NO_SHIP, () -> Places.noShipFound((x, berth) -> question.on(x, berth, 3)));
    }

    private static ContainerTerminal filled(int height) {
        ContainerTerminal x = Scenes.threeShips();
        for (int id = 0; id < height; id++) {
            x.stow(1, 2, 5 + id, 50);
        }
        return x;
    }

    private static void heights() {
        for (int height = 0; height <= 5; height++) {
            ContainerTerminal x = filled(height);
            Boundary.due("the stack", height, x.stackHeight(1, 2));
            Boundary.due("the stacks beside it", "0 0", x.stackHeight(1, 1) + " " + x.stackHeight(1, 3));
            Boundary.due("the same stack elsewhere", "0 0", x.stackHeight(0, 2) + " " + x.stackHeight(2, 2));
        }
    }

    private static void levels() {
        for (int height = 0; height <= 5; height++) {
            int count = height;
            Places.positions(height, () -> filled(count), (x, level) -> x.containerAt(1, 2, level));
        }
    }

    private static void topOfNone() {
        Boundary.refuses(NOT_FOUND, () -> filled(0), x -> x.topOf(1, 2));
        Boundary.refuses(NOT_FOUND, () -> filled(1), x -> x.topOf(1, 1));
        for (int height = 1; height <= 5; height++) {
            int count = height;
            Boundary.answers(height - 1, () -> filled(count), x -> x.topOf(1, 2));
        }
        ContainerTerminal x = filled(1);
        Check.clearRight(x, 1, 2);
        Boundary.throwsDue(NOT_FOUND, x, y -> y.topOf(1, 2));
    }

    private static void numbers() {
        Boundary.test(16, "Returns the number of hours, 0 if it floats now.",
            () -> waits(ContainerTerminal::hoursUntilFloating));
        Boundary.test(17, "Returns the number of hours.", () -> waits(ContainerTerminal::hoursUntilFloatingByTide));
        Boundary.test(25, "Returns the number of containers on a ship.", BerthBoundaries::loads);
        Boundary.test(26, "Returns the weight of all containers on a ship",
            () -> loadWeights(ContainerTerminal::weightOn));
        Boundary.test(27, "Returns the same weight as weightOn",
            () -> loadWeights(ContainerTerminal::weightOnByContainers));
        Boundary.test(41, "Returns the number of pairs of containers on a stack", BerthBoundaries::heavyOverLight);
    }

    /** The tide that a draught needs, and the first hour from each hour on at which it is there. */
    private static void waits(Scenes.Numbered question) {
        for (int draught = 1; draught <= 9; draught++) {
            int needed = Math.max(0, draught - 4);
            for (int hour = 0; hour <= 25; hour++) {
                ContainerTerminal x = new ContainerTerminal();
                if (hour > 0) {
                    x.pass(hour);
                }
                x.moor(0, draught, hour);
                int inTurn = hour % 12;
                boolean floats = inTurn >= needed && inTurn <= 12 - needed;
                int due = floats ? 0 : inTurn < needed ? needed - inTurn : 12 + needed - inTurn;
                Boundary.due("draught " + draught + " at hour " + hour, due, question.on(x, 0));
            }
        }
    }

    private static void loads() {
        ContainerTerminal x = Scenes.threeShips();
        for (int count = 0; count < 20; count++) {
            Boundary.due("the ship", count, x.containersOn(2));
            x.stow(2, count % 4, 1, 1);
        }
        Boundary.due("the full ship", 20, x.containersOn(2));
        Boundary.due("the others", "0 0", x.containersOn(0) + " " + x.containersOn(1));
        Check.clearRight(x, 2, 0);
        Boundary.due("one less", 19, x.containersOn(2));
    }

    private static void loadWeights(Scenes.Numbered question) {
        ContainerTerminal x = Scenes.threeShips();
        for (int count = 0; count < 20; count++) {
            Boundary.due("the ship", 30 * count, question.on(x, 1));
            x.stow(1, count / 5, 30, 1);
        }
        Boundary.due("the full ship", 600, question.on(x, 1));
        Boundary.due("an empty one", 0, question.on(x, 0));
        x.stow(0, 3, 1, 1);
        Boundary.due("one with one container", 1, question.on(x, 0));
        Check.clearRight(x, 0, 3);
        Boundary.due("the yard weighs nothing", 0, question.on(x, 0));
        Boundary.due("the last berth", 0, question.on(x, 2));
    }

    private static void heavyOverLight() {
        int[][] weights = {{}, {30}, {1, 30}, {30, 1}, {7, 7}, {1, 2, 3, 4, 5}, {5, 4, 3, 2, 1},
            {30, 30, 30, 30, 30}, {29, 30, 29, 30, 29}, {2, 1, 3}};
        int[] due = {0, 0, 1, 0, 0, 10, 0, 0, 3, 2};
        for (int index = 0; index < weights.length; index++) {
            int[] given = weights[index];
            Boundary.answers(due[index], () -> Check.stacked(given), x -> x.heavyOverLight(0, 0));
        }
        for (int place = 0; place < 12; place++) {
            ContainerTerminal x = Scenes.threeShips();
            x.stow(place / 4, place % 4, 1, 1);
            x.stow(place / 4, place % 4, 2, 1);
            for (int other = 0; other < 12; other++) {
                Boundary.due("stack " + other % 4 + " at berth " + other / 4, other == place ? 1 : 0,
                    x.heavyOverLight(other / 4, other % 4));
            }
        }
    }

    private static void ties() {
        Boundary.test(18, "Returns the berth of the moored ship with the lowest due hour.", BerthBoundaries::lowestDue);
        Boundary.test(18, "Of several such ships it is the one with the most containers",
            BerthBoundaries::mostContainers);
        Boundary.test(18, "and then the one at the berth with the lowest number.", BerthBoundaries::lowestBerth);
        Boundary.test(18, "no ship is moored", BerthBoundaries::noneUrgent);
        Boundary.test(40, "Of several such stacks it is the one with the lowest number.", BerthBoundaries::emptiest);
    }

    private static ContainerTerminal due(int... dueHours) {
        ContainerTerminal x = new ContainerTerminal();
        for (int berth = 0; berth < 3; berth++) {
            x.moor(berth, 4, dueHours[berth]);
        }
        return x;
    }

    private static void lowestDue() {
        int[][] dueHours = {{8, 9, 9}, {9, 8, 9}, {9, 9, 8}, {0, 999, 1}, {999, 998, 999}, {3, 2, 1}};
        int[] berths = {0, 1, 2, 0, 1, 2};
        for (int index = 0; index < berths.length; index++) {
            int[] given = dueHours[index];
            Boundary.answers(berths[index], () -> due(given), ContainerTerminal::mostUrgent);
        }
        ContainerTerminal x = due(9, 8, 9);
        x.stow(0, 0, 1, 1);
        x.stow(2, 0, 1, 1);
        x.stow(2, 1, 1, 1);
        Boundary.due("whatever the containers", 1, x.mostUrgent());
    }

    private static void mostContainers() {
        for (int berth = 0; berth < 3; berth++) {
            ContainerTerminal x = due(8, 8, 8);
            x.stow(berth, 3, 1, 1);
            Boundary.due("the only one loaded", berth, x.mostUrgent());
            x.stow((berth + 1) % 3, 0, 1, 1);
            x.stow((berth + 1) % 3, 0, 1, 1);
            Boundary.due("one with one more", (berth + 1) % 3, x.mostUrgent());
        }
        ContainerTerminal y = due(8, 8, 7);
        y.stow(1, 0, 1, 1);
        Boundary.due("an earlier one without any", 2, y.mostUrgent());
    }

    private static void lowestBerth() {
        Boundary.answers(0, () -> due(8, 8, 8), ContainerTerminal::mostUrgent);
        Boundary.answers(1, () -> due(9, 8, 8), ContainerTerminal::mostUrgent);
        Boundary.answers(0, () -> due(8, 9, 8), ContainerTerminal::mostUrgent);
        Boundary.answers(0, Scenes::loaded, ContainerTerminal::mostUrgent);
        Boundary.answers(1, () -> Scenes.without(0), ContainerTerminal::mostUrgent);
        Boundary.answers(0, () -> Scenes.without(1), ContainerTerminal::mostUrgent);
        Boundary.answers(0, () -> Scenes.without(2), ContainerTerminal::mostUrgent);
    }

    private static void noneUrgent() {
        Boundary.refuses(NOT_FOUND, ContainerTerminal::new, ContainerTerminal::mostUrgent);
        for (int berth = 0; berth < 3; berth++) {
            ContainerTerminal x = new ContainerTerminal();
            x.moor(berth, 4, 999);
            Boundary.due("the only ship", berth, x.mostUrgent());
            x.leave(berth);
            Boundary.throwsDue(NOT_FOUND, x, ContainerTerminal::mostUrgent);
        }
    }

    private static void emptiest() {
        int[][] heights = {{0, 0, 0, 0}, {1, 1, 1, 1}, {5, 5, 5, 5}, {1, 0, 0, 0}, {1, 1, 0, 0}, {1, 1, 1, 0},
            {5, 4, 3, 4}, {5, 5, 5, 4}, {4, 5, 5, 4}, {2, 1, 2, 1}};
        int[] stacks = {0, 0, 0, 1, 2, 3, 2, 3, 0, 1};
        for (int index = 0; index < stacks.length; index++) {
            int[] given = heights[index];
            Boundary.answers(stacks[index], () -> withHeights(given), x -> x.emptiestStack(2));
        }
    }

    private static ContainerTerminal withHeights(int[] heights) {
        ContainerTerminal x = Scenes.threeShips();
        for (int stack = 0; stack < 4; stack++) {
            for (int count = 0; count < heights[stack]; count++) {
                x.stow(2, stack, 1, 1);
            }
        }
        return x;
    }
}
