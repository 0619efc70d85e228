import java.util.NoSuchElementException;

/** The boundary cases of promises 47 to 57: fees, totals, means, the check of the terminal, and the line. */
final class LineBoundaries {
    private LineBoundaries() {
    }

    static void run() {
        fees();
        totals();
        means();
        Boundary.test(54, "and the containers stowed so far are those on ships, in the yard and delivered together.",
            LineBoundaries::consistent);
        stacks();
        berths();
        characters();
    }

    private static void fees() {
        Boundary.test(47, "the number of hours, 1 to 100",
            () -> Places.range(1, 100, Scenes::busy, ContainerTerminal::feesAfter));
        Boundary.test(47, "the number of hours is out of range",
            () -> Boundary.refuses(IllegalArgumentException.class, ContainerTerminal::new, x -> x.feesAfter(0)));
        Boundary.test(47, "by letting them pass on a copy", LineBoundaries::feesOnCopy);
        Boundary.test(48, "Returns the fees so far.", LineBoundaries::feesSoFar);
    }

    private static void feesOnCopy() {
        for (int hours : new int[] {1, 2, 99, 100}) {
            ContainerTerminal x = Scenes.busy();
            int coins = x.feesAfter(hours);
            Boundary.due("the terminal after feesAfter", Whole.tell(Scenes.busy()), Whole.tell(x));
            Boundary.answers(coins, Scenes::busy, y -> y.pass(hours));
        }
        Boundary.answers(0, ContainerTerminal::new, x -> x.feesAfter(100));
        Boundary.answers(0, Scenes::loaded, x -> x.feesAfter(100));
        Boundary.answers(15, LineBoundaries::dueNow, x -> x.feesAfter(1));
    }

    private static ContainerTerminal dueNow() {
        ContainerTerminal x = Scenes.loaded();
        x.pass(100);
        return x;
    }

    private static void feesSoFar() {
        Boundary.answers(0, ContainerTerminal::new, ContainerTerminal::fees);
        Boundary.answers(5, () -> Scenes.wrong(1), ContainerTerminal::fees);
        Boundary.answers(0, LineBoundaries::dueNow, ContainerTerminal::fees);
        ContainerTerminal x = dueNow();
        x.pass(1);
        Boundary.due("one hour over the due hours", 15, x.fees());
        Check.clearWrong(x, 0, 0);
        Boundary.due("and a wrong answer", 20, x.fees());
        x.undo();
        x.undo();
        Boundary.due("both taken back", 0, x.fees());
    }

    private static void totals() {
        Boundary.test(49, "Returns the number of containers that have been cleared so far.", LineBoundaries::cleared);
        Boundary.test(50, "Returns the number of containers that have been delivered so far.",
            LineBoundaries::delivered);
        Boundary.test(51, "Returns the number of wrong answers so far.", LineBoundaries::wrong);
    }

    private static void cleared() {
        Boundary.answers(0, ContainerTerminal::new, ContainerTerminal::clearedTotal);
        Boundary.answers(0, () -> Scenes.wrong(3), ContainerTerminal::clearedTotal);
        Boundary.answers(1, () -> Scenes.yard(1), ContainerTerminal::clearedTotal);
        Boundary.answers(15, () -> Scenes.yard(15), ContainerTerminal::clearedTotal);
        ContainerTerminal x = Scenes.yard(1);
        x.deliver(0);
        Boundary.due("after it was delivered", 1, x.clearedTotal());
        x.clear(0, 0, 3);
        Boundary.due("after one more", 2, x.clearedTotal());
        x.undo();
        x.undo();
        x.undo();
        x.undo();
        Boundary.due("after all was undone", 0, x.clearedTotal());
    }

    private static void delivered() {
        Boundary.answers(0, () -> Scenes.yard(15), ContainerTerminal::deliveredTotal);
        ContainerTerminal x = Scenes.yard(2);
        Boundary.throwsDue(NoSuchElementException.class, x, y -> y.deliver(2));
        Boundary.due("none", 0, x.deliveredTotal());
        x.deliver(1);
        Boundary.due("one", 1, x.deliveredTotal());
        x.deliver(0);
        Boundary.due("two", 2, x.deliveredTotal());
        x.undo();
        Boundary.due("one taken back", 1, x.deliveredTotal());
    }

    private static void wrong() {
        for (int count = 0; count <= 3; count++) {
            int due = count;
            Boundary.answers(due, () -> Scenes.wrong(due), ContainerTerminal::wrongTotal);
        }
        ContainerTerminal x = Scenes.wrong(3);
        Boundary.throwsDue(IllegalStateException.class, x, y -> y.clear(0, 0, 1));
        Boundary.due("a refused one does not count", 3, x.wrongTotal());
        x.moor(1, 4, 50);
        x.stow(1, 0, 1, 1);
        Check.clearWrong(x, 1, 0);
        Boundary.due("one at another berth", 4, x.wrongTotal());
        Check.clearRight(x, 1, 0);
        x.leave(1);
        Boundary.due("after its ship has left", 4, x.wrongTotal());
    }

    private static void means() {
        Boundary.test(52, "no ship is moored", () -> {
            Boundary.refuses(ArithmeticException.class, ContainerTerminal::new, ContainerTerminal::meanHeight);
            ContainerTerminal x = Check.stacked();
            Boundary.due("with a ship", 0.0, x.meanHeight());
            x.leave(0);
            Boundary.throwsDue(ArithmeticException.class, x, ContainerTerminal::meanHeight);
        });
        Boundary.test(52, "divided by 4 times the number of ships", LineBoundaries::meanHeights);
        Boundary.test(53, "there were no answers", LineBoundaries::noAnswers);
        Boundary.test(53, "divided by the number of all answers so far", LineBoundaries::shares);
    }

    private static void meanHeights() {
        Boundary.answers(0.0, Scenes::threeShips, ContainerTerminal::meanHeight);
        Boundary.answers(1.0, Scenes::loaded, ContainerTerminal::meanHeight);
        Boundary.answers(0.25, () -> Check.stacked(1), ContainerTerminal::meanHeight);
        Boundary.answers(1.25, () -> Check.stacked(1, 2, 3, 4, 5), ContainerTerminal::meanHeight);
        ContainerTerminal x = Scenes.threeShips();
        for (int count = 1; count <= 60; count++) {
            x.stow(count % 3, (count - 1) / 3 % 4, 1, 1);
            Boundary.due(count + " containers", count / 12.0, x.meanHeight());
        }
    }

    private static void noAnswers() {
        Boundary.refuses(ArithmeticException.class, ContainerTerminal::new, ContainerTerminal::rightShare);
        Boundary.refuses(ArithmeticException.class, Scenes::loaded, ContainerTerminal::rightShare);
        Boundary.answers(1.0f, () -> Scenes.yard(1), ContainerTerminal::rightShare);
        Boundary.answers(0.0f, () -> Scenes.wrong(1), ContainerTerminal::rightShare);
        ContainerTerminal x = Scenes.wrong(1);
        x.undo();
        Boundary.throwsDue(ArithmeticException.class, x, ContainerTerminal::rightShare);
    }

    private static void shares() {
        ContainerTerminal x = Scenes.wrong(2);
        Boundary.due("two wrong ones", 0.0f, x.rightShare());
        Check.clearRight(x, 0, 0);
        Boundary.due("one of three", 1.0f / 3.0f, x.rightShare());
        Check.clearRight(x, 0, 0);
        Boundary.due("two of four", 0.5f, x.rightShare());
        Check.clearRight(x, 0, 1);
        Boundary.due("three of five", 3.0f / 5.0f, x.rightShare());
        x.deliver(1);
        x.leave(0);
        Boundary.due("after delivery and leave", 3.0f / 5.0f, x.rightShare());
        Boundary.answers(1.0f, () -> Scenes.yard(15), ContainerTerminal::rightShare);
    }

    private static void consistent() {
        Boundary.answers(true, ContainerTerminal::new, ContainerTerminal::isConsistent);
        Boundary.answers(true, Scenes::loaded, ContainerTerminal::isConsistent);
        Boundary.answers(true, Scenes::busy, ContainerTerminal::isConsistent);
        Boundary.answers(true, () -> Scenes.yard(15), ContainerTerminal::isConsistent);
        ContainerTerminal x = Scenes.yard(3);
        x.save();
        for (int id = 0; id < 3; id++) {
            x.deliver(id);
            Boundary.due("after a delivery", true, x.isConsistent());
        }
        x.clear(0, 0, 3);
        x.deliver(3);
        Boundary.due("nothing is left", true, x.isConsistent());
        x.undo();
        Boundary.due("after an undo", true, x.isConsistent());
        x.restore();
        Boundary.due("after restore", true, x.isConsistent());
        for (int draught = 1; draught <= 9; draught++) {
            ContainerTerminal y = new ContainerTerminal();
            y.moor(1, draught, 5);
            for (int hour = 0; hour < 13; hour++) {
                Boundary.due("draught " + draught + " at hour " + hour, true, y.isConsistent());
                y.pass(1);
            }
        }
    }

    private static void lineIs(String want, Boundary.Scene scene, Boundary.Step format) {
        ContainerTerminal x = scene.make();
        Boundary.due("the length of \"" + want + "\"", want.length(), format.on(x));
        Boundary.due("the line", want, Check.line(x, want.length()));
    }

    private static void stacks() {
        Boundary.test(55, "replacing the previous line", LineBoundaries::shorterLine);
        Boundary.test(55, "for each container from the bottom to the top its id, \":\", its weight, \"/\" and its key",
            LineBoundaries::everyNumber);
        Boundary.test(55, "with a blank between two containers", () -> {
            lineIs("", Check::stacked, x -> x.formatStack(0, 0));
            lineIs("0:1/1", () -> Check.stacked(1), x -> x.formatStack(0, 0));
            lineIs("0:1/1 1:2/2", () -> Check.stacked(1, 2), x -> x.formatStack(0, 0));
            lineIs("0:1/1 1:2/2 2:3/3 3:4/4 4:5/5", Scenes::busy, x -> x.formatStack(0, 0));
        });
    }

    private static void shorterLine() {
        ContainerTerminal x = Scenes.busy();
        x.formatStack(0, 0);
        Boundary.due("a shorter line", 7, x.formatStack(0, 1));
        Boundary.due("its text", "5:30/99", Check.line(x, 7));
        Boundary.due("no line", 0, x.formatStack(0, 3));
        Boundary.throwsDue(IndexOutOfBoundsException.class, x, y -> y.lineChar(0));
        Boundary.due("a longer line again", 13, x.formatBerth(0));
        Boundary.due("its text", "B0 d6 h2 6 x2", Check.line(x, 13));
    }

    /** Ids of one, two and three digits; the least and the greatest weight and key. */
    private static void everyNumber() {
        lineIs("0:1/0", () -> one(0, 1, 0), x -> x.formatStack(0, 2));
        lineIs("9:9/9", () -> one(9, 9, 9), x -> x.formatStack(0, 2));
        lineIs("10:10/10", () -> one(10, 10, 10), x -> x.formatStack(0, 2));
        lineIs("99:30/99", () -> one(99, 30, 99), x -> x.formatStack(0, 2));
        lineIs("100:29/98", () -> one(100, 29, 98), x -> x.formatStack(0, 2));
        lineIs("109:20/90", () -> one(109, 20, 90), x -> x.formatStack(0, 2));
    }

    private static ContainerTerminal one(int id, int weight, int key) {
        ContainerTerminal x = Check.stacked();
        for (int before = 0; before < id; before++) {
            x.stow(0, 0, 1, 0);
            x.clear(0, 0, 1);
            x.deliver(before);
        }
        x.stow(0, 2, weight, key);
        return x;
    }

    private static void berths() {
        Boundary.test(56, "and \" -\" if no ship is moored;", () -> {
            for (int berth = 0; berth < 3; berth++) {
                int place = berth;
                lineIs("B" + berth + " -", ContainerTerminal::new, x -> x.formatBerth(place));
                lineIs("B" + berth + " -", () -> Scenes.without(place), x -> x.formatBerth(place));
            }
        });
        Boundary.test(56, "the draught, \" h\", the due hour, \" \" and the number of containers on the ship",
            LineBoundaries::shipsTold);
        Boundary.test(56, "then \" x\" and the wrong answers if there are any", () -> {
            lineIs("B0 d4 h100 3", () -> Scenes.wrong(0), x -> x.formatBerth(0));
            lineIs("B0 d4 h100 3 x1", () -> Scenes.wrong(1), x -> x.formatBerth(0));
            lineIs("B0 d4 h100 3 x2", () -> Scenes.wrong(2), x -> x.formatBerth(0));
        });
        Boundary.test(56, "and \" L\" and the remaining hours if the berth is locked.", () -> {
            lineIs("B0 d4 h100 3 L2", () -> lockedSince(0), x -> x.formatBerth(0));
            lineIs("B0 d4 h100 3 L1", () -> lockedSince(1), x -> x.formatBerth(0));
            lineIs("B0 d4 h100 3", () -> lockedSince(2), x -> x.formatBerth(0));
        });
        // A locked berth has no wrong answers and gets none: the example's two ends never stand in one line.
        Boundary.test(56, "An example is \"B1 d7 h30 5 x2 L1\".", () -> {
            lineIs("B1 d7 h30 5 x2", () -> example(2, 0), x -> x.formatBerth(1));
            lineIs("B1 d7 h30 5 L1", () -> example(3, 1), x -> x.formatBerth(1));
        });
    }

    private static ContainerTerminal lockedSince(int hours) {
        ContainerTerminal x = Scenes.wrong(3);
        for (int passed = 0; passed < hours; passed++) {
            x.pass(1);
        }
        return x;
    }

    private static ContainerTerminal example(int wrong, int hours) {
        ContainerTerminal x = new ContainerTerminal();
        x.moor(1, 7, 30);
        for (int id = 0; id < 5; id++) {
            x.stow(1, id % 4, 1, 0);
        }
        for (int count = 0; count < wrong; count++) {
            x.clear(1, 0, 0);
        }
        for (int passed = 0; passed < hours; passed++) {
            x.pass(1);
        }
        return x;
    }

    private static void shipsTold() {
        int[] dueHours = {0, 9, 10, 99, 100, 999};
        for (int dueHour : dueHours) {
            lineIs("B2 d1 h" + dueHour + " 0", () -> ship(1, dueHour, 0), x -> x.formatBerth(2));
        }
        for (int load : new int[] {1, 9, 10, 19, 20}) {
            lineIs("B2 d9 h50 " + load, () -> ship(9, 50, load), x -> x.formatBerth(2));
        }
        ContainerTerminal late = new ContainerTerminal();
        for (int count = 0; count < 100; count++) {
            late.pass(100);
        }
        lineIs("B0 -", () -> late, x -> x.formatBerth(0));
        late.moor(0, 5, 10999);
        lineIs("B0 d5 h10999 0", () -> late, x -> x.formatBerth(0));
    }

    private static ContainerTerminal ship(int draught, int dueHour, int load) {
        ContainerTerminal x = new ContainerTerminal();
        x.moor(2, draught, dueHour);
        for (int id = 0; id < load; id++) {
            x.stow(2, id % 4, 1, 1);
        }
        return x;
    }

    private static void characters() {
        Boundary.test(57, "which is empty at first", () -> {
            for (int index : new int[] {-1, 0, 1}) {
                Boundary.refuses(IndexOutOfBoundsException.class, ContainerTerminal::new, x -> x.lineChar(index));
                Boundary.refuses(IndexOutOfBoundsException.class, Scenes::loaded, x -> x.lineChar(index));
            }
        });
        Boundary.test(57, "the index, starting at 0", () -> {
            Boundary.answers('B', Scenes::busy, x -> x.lineChar(0));
            Boundary.answers('2', Scenes::busy, x -> x.lineChar(12));
        });
        Boundary.test(57, "the index is negative", () -> {
            for (int index : new int[] {Integer.MIN_VALUE, -2, -1}) {
                Boundary.refuses(IndexOutOfBoundsException.class, Scenes::busy, x -> x.lineChar(index));
            }
        });
        Boundary.test(57, "not less than the length of the line", () -> {
            for (int index : new int[] {13, 14, 59, 60, 99, 100, Integer.MAX_VALUE}) {
                Boundary.refuses(IndexOutOfBoundsException.class, Scenes::busy, x -> x.lineChar(index));
            }
        });
    }
}
