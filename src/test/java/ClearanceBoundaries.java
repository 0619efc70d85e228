import java.util.NoSuchElementException;

/** The boundary cases of the Terms on clearance and the yard. */
final class ClearanceBoundaries {
    private static final Class<IllegalStateException> STATE = IllegalStateException.class;

    private ClearanceBoundaries() {
    }

    static void run() {
        terms("The answer of a container is its key times 7 plus its weight, modulo 10.",
            ClearanceBoundaries::answers);
        terms("The top container of a stack is cleared by its answer: then it leaves the ship and lies in the yard.",
            ClearanceBoundaries::rightAnswer);
        terms("A wrong answer does not move the container;", ClearanceBoundaries::wrongMovesNothing);
        terms("it adds 1 to the wrong answers of the berth", ClearanceBoundaries::wrongCounts);
        terms("and 5 coins to the fees.", ClearanceBoundaries::wrongCosts);
        terms("With the third wrong answer of a berth, the berth is locked for 2 hours",
            ClearanceBoundaries::thirdLocks);
        terms("and its wrong answers become 0.", ClearanceBoundaries::thirdEndsCount);
        terms("A right answer does not change the wrong answers.", ClearanceBoundaries::rightKeepsWrong);
        terms("While a berth is locked, no container can be cleared at it;", ClearanceBoundaries::locked);
        terms("everything else goes on.", ClearanceBoundaries::othersGoOn);
        terms("A ship that leaves takes the wrong answers and the lock of its berth with it.",
            ClearanceBoundaries::leaving);
        terms("The yard holds at most 15 containers", ClearanceBoundaries::fullYard);
        terms("in the order in which they came.", ClearanceBoundaries::orderOfYard);
        terms("A container that is delivered leaves the yard.", ClearanceBoundaries::delivered);
    }

    private static void terms(String words, Runnable test) {
        Boundary.test(Boundary.TERMS, words, test);
    }

    private static void answers() {
        int[][] weightKeyAnswer = {{1, 0, 1}, {9, 0, 9}, {10, 0, 0}, {30, 0, 0}, {2, 1, 9}, {3, 1, 0}, {4, 1, 1},
            {1, 99, 4}, {30, 99, 3}, {7, 99, 0}, {6, 99, 9}, {29, 98, 5}};
        for (int[] given : weightKeyAnswer) {
            for (int answer = 0; answer <= 9; answer++) {
                ContainerTerminal x = Scenes.threeShips();
                int id = x.stow(1, 1, given[0], given[1]);
                Boundary.due("answerOf", given[2], x.answerOf(id));
                Boundary.due("clear with " + answer, answer == given[2], x.clear(1, 1, answer));
                Boundary.due("answerOf after the answer", given[2], x.answerOf(id));
            }
        }
    }

    private static void rightAnswer() {
        ContainerTerminal x = Scenes.loaded();
        Boundary.due("clear", true, x.clear(1, 3, 7));
        Boundary.due("on the ship", "false 0 3", x.isOnShip(7) + " " + x.stackHeight(1, 3) + " " + x.containersOn(1));
        Boundary.due("in the yard", "true 1 7", x.isInYard(7) + " " + x.yardCount() + " " + x.yardAt(0));
        Boundary.due("the totals", "1 0 0", x.clearedTotal() + " " + x.wrongTotal() + " " + x.fees());
        ContainerTerminal y = Check.stacked(1, 2, 3, 4, 5);
        for (int id = 4; id >= 0; id--) {
            Check.clearRight(y, 0, 0);
            Boundary.due("the stack", id, y.stackHeight(0, 0));
            Boundary.due("the latest in the yard", id, y.yardAt(4 - id));
        }
        Boundary.throwsDue(STATE, y, z -> z.clear(0, 0, 1));
    }

    private static void wrongMovesNothing() {
        ContainerTerminal x = Scenes.wrong(0);
        for (int count = 1; count <= 3; count++) {
            Boundary.due("clear", false, Check.clearWrong(x, 0, 0));
            Boundary.due("the stack", "2 0 1",
                x.stackHeight(0, 0) + " " + x.containerAt(0, 0, 0) + " " + x.containerAt(0, 0, 1));
            Boundary.due("the yard", "0 true false", x.yardCount() + " " + x.isOnShip(1) + " " + x.isInYard(1));
            Boundary.due("the total", 0, x.clearedTotal());
        }
    }

    private static String wrongs(ContainerTerminal x) {
        return x.wrongAnswers(0) + " " + x.wrongAnswers(1) + " " + x.wrongAnswers(2);
    }

    private static void wrongCounts() {
        ContainerTerminal x = Scenes.loaded();
        Boundary.due("none", "0 0 0", wrongs(x));
        Check.clearWrong(x, 1, 3);
        Boundary.due("one at berth 1", "0 1 0", wrongs(x));
        Check.clearWrong(x, 1, 0);
        Boundary.due("a second on another stack", "0 2 0", wrongs(x));
        Check.clearWrong(x, 2, 0);
        Boundary.due("one at berth 2", "0 2 1", wrongs(x));
        Check.clearWrong(x, 0, 1);
        Boundary.due("one at berth 0", "1 2 1", wrongs(x));
        Boundary.due("the total", 4, x.wrongTotal());
    }

    private static void wrongCosts() {
        ContainerTerminal x = Scenes.loaded();
        for (int count = 1; count <= 9; count++) {
            Check.clearWrong(x, count % 3, 0);
            Boundary.due("the fees", 5 * count, x.fees());
        }
    }

    private static String locks(ContainerTerminal x) {
        return x.lockedHours(0) + " " + x.lockedHours(1) + " " + x.lockedHours(2);
    }

    private static void thirdLocks() {
        ContainerTerminal x = Scenes.loaded();
        Check.clearWrong(x, 1, 3);
        Boundary.due("the first", "0 0 0", locks(x));
        Check.clearWrong(x, 1, 0);
        Check.clearWrong(x, 2, 0);
        Boundary.due("the second, and one elsewhere", "0 0 0", locks(x));
        Check.clearWrong(x, 1, 2);
        Boundary.due("the third", "0 2 0", locks(x));
        Boundary.due("the third also costs", "4 20", x.wrongTotal() + " " + x.fees());
        ContainerTerminal y = Scenes.wrong(2);
        y.pass(100);
        Boundary.due("hours end no count", 2, y.wrongAnswers(0));
        Check.clearWrong(y, 0, 0);
        Boundary.due("the third, much later", "2 0 0", locks(y));
        y.undo();
        Boundary.due("the third taken back", "0 0 0", locks(y));
    }

    private static void thirdEndsCount() {
        ContainerTerminal x = Scenes.wrong(3);
        Boundary.due("after the third", "0 2", x.wrongAnswers(0) + " " + x.lockedHours(0));
        x.pass(2);
        int[][] next = {{1, 0}, {2, 0}, {0, 2}};
        for (int[] due : next) {
            Check.clearWrong(x, 0, 0);
            Boundary.due("the count again", due[0] + " " + due[1], x.wrongAnswers(0) + " " + x.lockedHours(0));
        }
        Boundary.due("the total goes on", 6, x.wrongTotal());
    }

    private static void rightKeepsWrong() {
        for (int wrong = 0; wrong <= 2; wrong++) {
            ContainerTerminal x = Scenes.wrong(wrong);
            Check.clearRight(x, 0, 0);
            Boundary.due("after a right answer", wrong, x.wrongAnswers(0));
            Boundary.due("no lock", 0, x.lockedHours(0));
            Check.clearRight(x, 0, 1);
            Check.clearWrong(x, 0, 0);
            Boundary.due("a wrong one after it", (wrong + 1) % 3, x.wrongAnswers(0));
        }
    }

    private static void locked() {
        ContainerTerminal x = Scenes.wrong(3);
        x.stow(0, 2, 1, 1);
        x.stow(0, 3, 1, 1);
        for (int hours = 2; hours >= 1; hours--) {
            for (int stack = 0; stack < 4; stack++) {
                int place = stack;
                Boundary.throwsDue(STATE, x, y -> Check.clearRight(y, 0, place));
                Boundary.throwsDue(STATE, x, y -> Check.clearWrong(y, 0, place));
            }
            Boundary.due("nothing was answered", "3 15", x.wrongTotal() + " " + x.fees());
            x.pass(1);
        }
        Boundary.due("after two hours", true, Check.clearRight(x, 0, 0));
        Boundary.refuses(STATE, () -> Scenes.wrong(3), y -> y.clear(0, 0, 2));
        Boundary.refuses(STATE, Scenes::busy, y -> y.clear(2, 0, 4));
    }

    private static void othersGoOn() {
        ContainerTerminal x = Scenes.wrong(2);
        x.moor(1, 4, 50);
        x.stow(1, 0, 1, 1);
        Check.clearRight(x, 0, 1);
        Check.clearWrong(x, 0, 0);
        Boundary.due("locked", 2, x.lockedHours(0));
        Boundary.due("clear at another berth", true, Check.clearRight(x, 1, 0));
        Boundary.due("leave from another berth", 1, x.leave(1));
        Boundary.due("moor at another berth", 2, x.moor(2, 4, 50));
        Boundary.due("stow at the locked one", 4, x.stow(0, 3, 9, 9));
        Boundary.due("move at the locked one", 4, x.move(0, 3, 0));
        Boundary.due("deliver what came from it", 1, x.deliver(2));
        Boundary.due("pass", 0, x.pass(1));
        Boundary.due("still locked", 1, x.lockedHours(0));
        Boundary.due("save", 2, x.save());
        Boundary.due("run", 1, Check.run(x, "move 001"));
        Boundary.due("undo", 7, x.undo());
    }

    private static void leaving() {
        for (int wrong = 0; wrong <= 2; wrong++) {
            ContainerTerminal x = Scenes.wrong(wrong);
            Check.clearRight(x, 0, 0);
            Check.clearRight(x, 0, 0);
            Check.clearRight(x, 0, 1);
            Boundary.due("before", wrong, x.wrongAnswers(0));
            x.leave(0);
            Boundary.due("after", "0 0", x.wrongAnswers(0) + " " + x.lockedHours(0));
            x.moor(0, 4, 50);
            Boundary.due("the next ship", "0 0", x.wrongAnswers(0) + " " + x.lockedHours(0));
            x.stow(0, 0, 1, 1);
            Check.clearWrong(x, 0, 0);
            Check.clearWrong(x, 0, 0);
            Boundary.due("two wrong answers for it", "2 0", x.wrongAnswers(0) + " " + x.lockedHours(0));
        }
        leavingElsewhere();
    }

    /** No ship leaves locked: the container that was answered wrongly stays on it as long as the lock lasts. */
    private static void leavingElsewhere() {
        ContainerTerminal x = Scenes.wrong(3);
        Boundary.throwsDue(STATE, x, y -> y.leave(0));
        x.moor(1, 4, 50);
        x.moor(2, 4, 50);
        x.stow(2, 0, 1, 1);
        Check.clearWrong(x, 2, 0);
        x.leave(1);
        Boundary.due("of other berths", "2 0 1", x.lockedHours(0) + " " + x.wrongAnswers(1) + " " + x.wrongAnswers(2));
    }

    private static void fullYard() {
        for (int count = 0; count <= 14; count++) {
            ContainerTerminal x = Scenes.yard(count);
            Boundary.due("with room", true, Check.clearRight(x, 0, 0));
            Boundary.due("yardCount", count + 1, x.yardCount());
        }
        Boundary.answers(15, () -> Scenes.yard(15), ContainerTerminal::yardCount);
        Boundary.refuses(STATE, () -> Scenes.yard(15), x -> x.clear(0, 0, 3));
        Boundary.refuses(STATE, () -> Scenes.yard(15), x -> x.clear(0, 0, 4));
        ContainerTerminal y = Scenes.yard(15);
        Boundary.due("one delivered", 14, y.deliver(0));
        Boundary.due("one more", true, y.clear(0, 0, 3));
        Boundary.due("yardCount", 15, y.yardCount());
        y.stow(0, 0, 3, 0);
        Boundary.throwsDue(STATE, y, z -> z.clear(0, 0, 3));
        fullTerminal();
    }

    private static void fullTerminal() {
        ContainerTerminal x = Scenes.full();
        Boundary.due("the last one", "true 15 74 2 0 4", x.isOnShip(74) + " " + x.weightOf(74) + " " + x.keyOf(74)
            + " " + x.berthOf(74) + " " + x.stackOf(74) + " " + x.levelOf(74));
        Boundary.due("its stack", "5 74 74", x.stackHeight(2, 0) + " " + x.topOf(2, 0) + " " + x.containerAt(2, 0, 4));
        Boundary.due("the yard", "15 0 14", x.yardCount() + " " + x.yardAt(0) + " " + x.yardAt(14));
        Boundary.due("all keys", 75, x.differentKeys());
        Boundary.due("all ships", "20 20 20", x.containersOn(0) + " " + x.containersOn(1) + " " + x.containersOn(2));
        Boundary.due("isConsistent", true, x.isConsistent());
        Boundary.throwsDue(STATE, x, y -> y.stow(2, 0, 1, 1));
        Boundary.throwsDue(STATE, x, y -> y.clear(2, 0, 3));
        Boundary.throwsDue(STATE, x, y -> y.move(2, 0, 1));
        Boundary.due("deliver", 14, x.deliver(14));
        Boundary.due("clear the last one", true, x.clear(2, 0, 3));
        Boundary.due("it lies in the yard", "15 74", x.yardCount() + " " + x.yardAt(14));
        Boundary.due("stow in its place", 75, x.stow(2, 0, 1, 1));
    }

    private static void orderOfYard() {
        ContainerTerminal x = Scenes.threeShips();
        for (int id = 0; id < 15; id++) {
            x.stow(id % 3, id / 3 % 4, 1 + id, 99 - id);
        }
        int[] places = {8, 2, 1, 11, 0, 6, 7, 5, 10, 4, 9, 3, 0, 1, 2};
        int[] ids = {8, 14, 13, 11, 12, 6, 7, 5, 10, 4, 9, 3, 0, 1, 2};
        for (int index = 0; index < 15; index++) {
            Check.clearRight(x, places[index] % 3, places[index] / 3);
        }
        for (int index = 0; index < 15; index++) {
            Boundary.due("position " + index, ids[index], x.yardAt(index));
        }
    }

    private static void delivered() {
        for (int count = 1; count <= 15; count++) {
            for (int position : new int[] {0, count / 2, count - 1}) {
                ContainerTerminal x = Scenes.yard(count);
                Boundary.due("deliver", count - 1, x.deliver(position));
                Boundary.due("the yard", count - 1, x.yardCount());
                Boundary.due("it lies nowhere", "false false", x.isInYard(position) + " " + x.isOnShip(position));
                for (int other = 0; other < count - 1; other++) {
                    Boundary.due("the order", other < position ? other : other + 1, x.yardAt(other));
                }
                int behind = count - 1;
                Boundary.throwsDue(NoSuchElementException.class, x, y -> y.yardAt(behind));
                Boundary.throwsDue(NoSuchElementException.class, x, y -> y.deliver(position));
            }
        }
        deliveredFromReversed();
        nothingIsLeftBehind();
    }

    /** The containers 4 to 0 came in this order: those behind the delivered one have the lower ids. */
    private static void deliveredFromReversed() {
        for (int id = 0; id < 5; id++) {
            ContainerTerminal x = Check.stacked(1, 2, 3, 4, 5);
            for (int count = 0; count < 5; count++) {
                Check.clearRight(x, 0, 0);
            }
            Boundary.due("deliver", 4, x.deliver(id));
            for (int position = 0; position < 4; position++) {
                int due = 4 - position > id ? 4 - position : 3 - position;
                Boundary.due("position " + position + " without " + id, due, x.yardAt(position));
            }
            Boundary.throwsDue(NoSuchElementException.class, x, y -> y.yardAt(4));
        }
    }

    /** After a delivery the latest container lies in one place only, also when it moves. */
    private static void nothingIsLeftBehind() {
        ContainerTerminal x = Scenes.yard(1);
        x.stow(0, 2, 9, 9);
        x.deliver(0);
        x.move(0, 2, 3);
        Boundary.throwsDue(NoSuchElementException.class, x, y -> y.containerAt(0, 2, 0));
        Boundary.throwsDue(NoSuchElementException.class, x, y -> y.topOf(0, 2));
        Boundary.due("on its new stack", "2 2", x.containerAt(0, 3, 0) + " " + x.topOf(0, 3));
        Boundary.due("the ship", "2 12 12", x.containersOn(0) + " " + x.weightOn(0) + " " + x.weightOnByContainers(0));
        Check.clearRight(x, 0, 3);
        Boundary.throwsDue(NoSuchElementException.class, x, y -> y.containerAt(0, 3, 0));
        Boundary.due("in the yard", "1 2", x.yardCount() + " " + x.yardAt(0));
        x.deliver(2);
        Boundary.throwsDue(NoSuchElementException.class, x, y -> y.yardAt(0));
        Boundary.throwsDue(NoSuchElementException.class, x, y -> y.weightOf(2));
    }
}
