import static java.lang.Integer.MAX_VALUE;
import static java.lang.Integer.MIN_VALUE;

import java.util.NoSuchElementException;

/** The boundary cases of promises 1 to 8: a new object and the changes. */
final class ChangeBoundaries {
    private static final Class<IllegalArgumentException> ARGUMENT = IllegalArgumentException.class;
    private static final Class<IllegalStateException> STATE = IllegalStateException.class;
    private static final String BERTH = "there is no such berth";
    private static final String STACK = "or stack";
    private static final String NO_SHIP = "no ship is moored at the berth";

    private ChangeBoundaries() {
    }

    static void run() {
        Boundary.test(1, "Creates a terminal without ships and containers, at hour 0.", ChangeBoundaries::newObject);
        moor();
        stow();
        clear();
        move();
        deliver();
        leave();
        pass();
    }

    private static void newObject() {
        ContainerTerminal x = new ContainerTerminal();
        Boundary.due("hour and tide", "0 0", x.hour() + " " + x.tide());
        Boundary.due("ships", "0 false false false",
            x.shipCount() + " " + x.isMoored(0) + " " + x.isMoored(1) + " " + x.isMoored(2));
        Boundary.due("containers", "false false 0 0",
            x.isOnShip(0) + " " + x.isInYard(0) + " " + x.yardCount() + " " + x.differentKeys());
        Boundary.due("totals", "0 0 0 0", x.fees() + " " + x.clearedTotal() + " " + x.deliveredTotal() + " "
            + x.wrongTotal());
        Boundary.due("undoableCount", 0, x.undoableCount());
        ContainerTerminal other = new ContainerTerminal();
        other.moor(0, 4, 9);
        other.pass(3);
        Boundary.due("objects apart", "0 0", x.hour() + " " + x.shipCount());
        Boundary.due("the first id", "1 0", x.moor(2, 1, 0) + " " + x.stow(2, 3, 1, 0));
    }

    private static void moor() {
        Boundary.test(2, BERTH, () -> Places.noBerth(ContainerTerminal::new, (x, berth) -> x.moor(berth, 4, 9)));
        Boundary.test(2, "the draught, 1 to 9",
            () -> Places.range(1, 9, Scenes::busy, (x, value) -> x.moor(1, value, 9)));
        Boundary.test(2, "the due hour, from the present hour to 999 hours after it", ChangeBoundaries::dueHours);
        Boundary.test(2, "one of the other arguments is out of range", ChangeBoundaries::oneArgument);
        Boundary.test(2, "a ship is moored at the berth", ChangeBoundaries::moorTwice);
        Boundary.test(2, "Returns the number of ships that are moored afterwards.", ChangeBoundaries::shipsAfterMoor);
    }

    private static void dueHours() {
        for (int hour : new int[] {0, 1, 99, 100}) {
            Scenes.Numbered moor = (x, dueHour) -> x.moor(1, 4, dueHour);
            Places.range(hour, hour + 999, () -> atHour(hour), moor);
        }
        ContainerTerminal x = atHour(3);
        Boundary.throwsDue(ARGUMENT, x, y -> y.moor(0, 4, 2));
        x.undo();
        Boundary.due("the present hour after an undo", 1, x.moor(0, 4, 0));
        Boundary.due("the due hour", 0, x.dueHour(0));
    }

    private static ContainerTerminal atHour(int hour) {
        ContainerTerminal x = new ContainerTerminal();
        if (hour > 0) {
            x.pass(hour);
        }
        return x;
    }

    private static void oneArgument() {
        Boundary.refuses(ARGUMENT, Scenes::busy, x -> x.moor(1, 0, 9));
        Boundary.refuses(ARGUMENT, Scenes::busy, x -> x.moor(1, 4, 2));
        Boundary.refuses(ARGUMENT, Scenes::busy, x -> x.moor(1, 10, 2));
        Boundary.answers(3, Scenes::busy, x -> x.moor(1, 9, 3));
    }

    private static void moorTwice() {
        for (int berth = 0; berth < 3; berth++) {
            int place = berth;
            Boundary.refuses(STATE, Scenes::loaded, x -> x.moor(place, 4, 9));
            Boundary.answers(3, () -> Scenes.without(place), x -> x.moor(place, 4, 9));
        }
        Boundary.refuses(STATE, Scenes::busy, x -> x.moor(0, 4, 9));
        Boundary.refuses(STATE, Scenes::busy, x -> x.moor(2, 4, 9));
    }

    private static void shipsAfterMoor() {
        for (int first = 0; first < 3; first++) {
            ContainerTerminal x = new ContainerTerminal();
            Boundary.due("the first", 1, x.moor(first, 4, 9));
            Boundary.due("the second", 2, x.moor((first + 1) % 3, 4, 9));
            Boundary.due("the third", 3, x.moor((first + 2) % 3, 4, 9));
        }
    }

    private static void stow() {
        Boundary.test(3, BERTH, () -> Places.noBerth(Scenes::loaded, (x, berth) -> x.stow(berth, 1, 1, 1)));
        Boundary.test(3, STACK, () -> Places.noStack(Scenes::loaded, (x, berth, stack) -> x.stow(berth, stack, 1, 1)));
        Boundary.test(3, "the weight, 1 to 30",
            () -> Places.range(1, 30, Scenes::busy, (x, value) -> x.stow(0, 1, value, 0)));
        Boundary.test(3, "the key, 0 to 99",
            () -> Places.range(0, 99, Scenes::busy, (x, value) -> x.stow(0, 1, 1, value)));
        Boundary.test(3, "the weight or", () -> Boundary.refuses(ARGUMENT, Scenes::busy, x -> x.stow(2, 1, 31, 0)));
        Boundary.test(3, "the key is out of range",
            () -> Boundary.refuses(ARGUMENT, Scenes::busy, x -> x.stow(2, 1, 30, -1)));
        Boundary.test(3, NO_SHIP, () -> Places.noShip(STATE, (x, berth) -> x.stow(berth, 1, 1, 1)));
        Boundary.test(3, "the stack has 5 containers", ChangeBoundaries::stowOnFive);
    }

    private static void stowOnFive() {
        for (int count = 0; count < 5; count++) {
            int[] weights = new int[count];
            java.util.Arrays.fill(weights, 30);
            Boundary.answers(count, () -> Check.stacked(weights), x -> x.stow(0, 0, 1, 0));
        }
        Boundary.refuses(STATE, () -> Check.stacked(1, 2, 3, 4, 5), x -> x.stow(0, 0, 1, 0));
        Boundary.answers(5, () -> Check.stacked(1, 2, 3, 4, 5), x -> x.stow(0, 1, 1, 0));
        ContainerTerminal x = Check.stacked(1, 2, 3, 4, 5);
        x.move(0, 0, 3);
        Boundary.due("after one was moved away", 5, x.stow(0, 0, 1, 0));
        Check.clearRight(x, 0, 0);
        Boundary.due("after one was cleared", 6, x.stow(0, 0, 1, 0));
        Boundary.throwsDue(STATE, x, y -> y.stow(0, 0, 1, 0));
    }

    private static void clear() {
        Boundary.test(4, BERTH, () -> Places.noBerth(Scenes::loaded, (x, berth) -> x.clear(berth, 1, 1)));
        Boundary.test(4, STACK, () -> Places.noStack(Scenes::loaded, (x, berth, stack) -> x.clear(berth, stack, 1)));
        Boundary.test(4, "the answer, 0 to 9",
            () -> Places.range(0, 9, Scenes::busy, (x, value) -> x.clear(0, 1, value)));
        Boundary.test(4, "the answer is out of range", ChangeBoundaries::answerOutOfRange);
        Boundary.test(4, NO_SHIP, () -> Places.noShip(STATE, (x, berth) -> x.clear(berth, 0, 1)));
        Boundary.test(4, "the berth is locked", ChangeBoundaries::clearLocked);
        Boundary.test(4, "the stack has no containers", ChangeBoundaries::clearEmpty);
        Boundary.test(4, "the yard holds 15 containers", ChangeBoundaries::clearIntoFull);
    }

    /** An answer that is right but for a ten is out of range all the same: the one of weight 3, key 0 is 3. */
    private static void answerOutOfRange() {
        for (int answer : new int[] {MIN_VALUE, -7, -1, 10, 13, MAX_VALUE}) {
            Boundary.refuses(ARGUMENT, () -> Scenes.yard(0), x -> x.clear(0, 0, answer));
        }
        Boundary.answers(true, () -> Scenes.yard(0), x -> x.clear(0, 0, 3));
    }

    private static void clearLocked() {
        Boundary.answers(true, () -> Scenes.wrong(2), x -> Check.clearRight(x, 0, 1));
        Boundary.refuses(STATE, () -> Scenes.wrong(3), x -> Check.clearRight(x, 0, 1));
        Boundary.refuses(STATE, () -> lockedSince(1), x -> Check.clearRight(x, 0, 0));
        Boundary.answers(true, () -> lockedSince(2), x -> Check.clearRight(x, 0, 0));
    }

    private static ContainerTerminal lockedSince(int hours) {
        ContainerTerminal x = Scenes.wrong(3);
        x.pass(hours);
        return x;
    }

    private static void clearEmpty() {
        for (int stack = 1; stack < 4; stack++) {
            int empty = stack;
            Boundary.refuses(STATE, () -> Scenes.yard(1), x -> x.clear(0, empty, 3));
        }
        Boundary.answers(true, () -> Scenes.yard(1), x -> x.clear(0, 0, 3));
        Boundary.refuses(STATE, () -> Check.stacked(), x -> x.clear(0, 0, 0));
        ContainerTerminal x = Scenes.yard(0);
        x.clear(0, 0, 3);
        Boundary.throwsDue(STATE, x, y -> y.clear(0, 0, 3));
        Boundary.throwsDue(STATE, x, y -> y.clear(0, 0, 0));
    }

    private static void clearIntoFull() {
        Boundary.answers(true, () -> Scenes.yard(14), x -> x.clear(0, 0, 3));
        Boundary.answers(false, () -> Scenes.yard(14), x -> x.clear(0, 0, 2));
        Boundary.refuses(STATE, () -> Scenes.yard(15), x -> x.clear(0, 0, 3));
        Boundary.refuses(STATE, () -> Scenes.yard(15), x -> x.clear(0, 0, 2));
    }

    private static void move() {
        Boundary.test(5, BERTH, () -> Places.noBerth(Scenes::loaded, (x, berth) -> x.move(berth, 1, 2)));
        Boundary.test(5, STACK, () -> {
            Places.noStack(Scenes::loaded, (x, berth, stack) -> x.move(berth, stack, stack == 1 ? 2 : 1));
            Places.noStack(Scenes::loaded, (x, berth, stack) -> x.move(berth, stack == 1 ? 2 : 1, stack));
        });
        Boundary.test(5, "both stacks are the same", ChangeBoundaries::moveToSame);
        Boundary.test(5, NO_SHIP, () -> Places.noShip(STATE, (x, berth) -> x.move(berth, 0, 1)));
        Boundary.test(5, "the first stack has no containers", ChangeBoundaries::moveFromEmpty);
        Boundary.test(5, "the second one has 5 containers", ChangeBoundaries::moveToFull);
    }

    private static void moveToSame() {
        for (int stack = 0; stack < 4; stack++) {
            int same = stack;
            Boundary.refuses(ARGUMENT, Scenes::busy, x -> x.move(0, same, same));
            Boundary.refuses(ARGUMENT, Scenes::loaded, x -> x.move(1, same, same));
            Boundary.answers(4 + same, Scenes::loaded, x -> x.move(1, same, 3 - same));
        }
    }

    private static void moveFromEmpty() {
        for (int to = 0; to < 3; to++) {
            int place = to;
            Boundary.refuses(STATE, () -> Scenes.yard(3), x -> x.move(0, 3, place));
        }
        Boundary.refuses(STATE, Scenes::threeShips, x -> x.move(1, 0, 1));
        ContainerTerminal x = Scenes.yard(0);
        Boundary.due("the only container", 0, x.move(0, 0, 3));
        Boundary.throwsDue(STATE, x, y -> y.move(0, 0, 3));
        Boundary.throwsDue(STATE, x, y -> y.move(0, 0, 1));
        Boundary.due("it goes back", 0, x.move(0, 3, 0));
    }

    private static void moveToFull() {
        for (int count = 0; count < 5; count++) {
            int[] weights = new int[count];
            java.util.Arrays.fill(weights, 30);
            Boundary.answers(count, () -> oneBeside(weights), x -> x.move(0, 2, 0));
        }
        Boundary.refuses(STATE, () -> oneBeside(1, 2, 3, 4, 5), x -> x.move(0, 2, 0));
        Boundary.answers(5, () -> oneBeside(1, 2, 3, 4, 5), x -> x.move(0, 2, 1));
        Boundary.answers(4, () -> oneBeside(1, 2, 3, 4, 5), x -> x.move(0, 0, 2));
    }

    private static ContainerTerminal oneBeside(int... weights) {
        ContainerTerminal x = Check.stacked(weights);
        x.stow(0, 2, 7, 7);
        return x;
    }

    private static void deliver() {
        Boundary.test(6, "no container with this id is in the yard", ChangeBoundaries::deliverNone);
        Boundary.test(6, "Returns the number of containers in the yard afterwards.", ChangeBoundaries::deliverAll);
    }

    private static void deliverNone() {
        for (int id : new int[] {MIN_VALUE, -1, 0, 5, 7, 10, 11, MAX_VALUE}) {
            Boundary.refuses(NoSuchElementException.class, Scenes::busy, x -> x.deliver(id));
        }
        Boundary.answers(1, Scenes::busy, x -> x.deliver(9));
        Boundary.answers(1, Scenes::busy, x -> x.deliver(8));
        Boundary.refuses(NoSuchElementException.class, ContainerTerminal::new, x -> x.deliver(0));
        ContainerTerminal x = Scenes.busy();
        x.deliver(9);
        Boundary.throwsDue(NoSuchElementException.class, x, y -> y.deliver(9));
    }

    private static void deliverAll() {
        ContainerTerminal x = Scenes.yard(15);
        for (int count = 14; count >= 0; count--) {
            Boundary.due("deliver", count, x.deliver(count % 2 == 0 ? count / 2 : 14 - count / 2));
            Boundary.due("deliveredTotal", 15 - count, x.deliveredTotal());
        }
    }

    private static void leave() {
        Boundary.test(7, BERTH, () -> Places.noBerth(Scenes::threeShips, (x, berth) -> x.leave(berth)));
        Boundary.test(7, NO_SHIP, ChangeBoundaries::leaveWithoutShip);
        Boundary.test(7, "containers are on it", ChangeBoundaries::leaveLoaded);
        Boundary.test(7, "it does not float at the present hour", ChangeBoundaries::leaveAground);
        Boundary.test(7, "Returns the number of ships that are moored afterwards.", ChangeBoundaries::shipsAfterLeave);
    }

    private static void leaveWithoutShip() {
        for (int berth = 0; berth < 3; berth++) {
            int place = berth;
            Boundary.refuses(STATE, () -> Scenes.without(place), x -> x.leave(place));
            Boundary.refuses(STATE, ContainerTerminal::new, x -> x.leave(place));
            ContainerTerminal x = Scenes.threeShips();
            x.leave(berth);
            Boundary.throwsDue(STATE, x, y -> y.leave(place));
        }
    }

    private static void leaveLoaded() {
        for (int place = 0; place < 12; place++) {
            ContainerTerminal x = Scenes.threeShips();
            int berth = place / 4;
            x.stow(berth, place % 4, 5, 5);
            Boundary.throwsDue(STATE, x, y -> y.leave(berth));
            Check.clearRight(x, berth, place % 4);
            Boundary.due("without the container", 2, x.leave(berth));
        }
        Boundary.refuses(STATE, Scenes::loaded, x -> x.leave(1));
    }

    private static void leaveAground() {
        for (int draught = 1; draught <= 9; draught++) {
            for (int hour = 0; hour <= 12; hour++) {
                int tide = hour <= 6 ? hour : 12 - hour;
                ContainerTerminal x = atHour(hour);
                x.moor(0, draught, hour);
                if (4 + tide >= draught) {
                    Boundary.due("draught " + draught + ", hour " + hour, 0, x.leave(0));
                } else {
                    Boundary.throwsDue(STATE, x, y -> y.leave(0));
                }
            }
        }
        Boundary.refuses(STATE, ChangeBoundaries::aground, x -> x.leave(1));
    }

    private static ContainerTerminal aground() {
        ContainerTerminal x = atHour(4);
        x.moor(1, 9, 50);
        return x;
    }

    private static void shipsAfterLeave() {
        for (int first = 0; first < 3; first++) {
            ContainerTerminal x = Scenes.threeShips();
            Boundary.due("the first", 2, x.leave(first));
            Boundary.due("the second", 1, x.leave((first + 1) % 3));
            Boundary.due("the third", 0, x.leave((first + 2) % 3));
        }
    }

    private static void pass() {
        Boundary.test(8, "the number of hours, 1 to 100",
            () -> Places.range(1, 100, Scenes::busy, (x, value) -> x.pass(value)));
        Boundary.test(8, "the number of hours is out of range",
            () -> Boundary.refuses(ARGUMENT, Scenes::threeShips, x -> x.pass(0)));
        Boundary.test(8, "Lets hours pass, one after the other.", ChangeBoundaries::hourByHour);
    }

    /** 100 hours at once are as 100 hours one by one, but for the changes that can be undone. */
    private static void hourByHour() {
        ContainerTerminal once = Scenes.busy();
        ContainerTerminal oneByOne = Scenes.busy();
        int coins = 0;
        for (int hour = 0; hour < 100; hour++) {
            coins += oneByOne.pass(1);
        }
        Boundary.due("the coins", coins, once.pass(100));
        Boundary.due("the terminal", Check.view(oneByOne), Check.view(once));
    }
}
