/** The boundary cases of the Terms on hours and tides. */
final class HourBoundaries {
    private HourBoundaries() {
    }

    static void run() {
        terms("The hour counter starts at 0.", HourBoundaries::startsAtZero);
        terms("The tide at an hour is r if r is at most 6", HourBoundaries::rising);
        terms("and 12 minus r otherwise", HourBoundaries::falling);
        terms("where r is the hour modulo 12", HourBoundaries::wrapsAround);
        terms("A ship floats at an hour if 4 plus the tide at this hour is at least its draught.",
            HourBoundaries::floating);
        terms("When an hour passes, the counter increases by 1;", HourBoundaries::counter);
        terms("then the remaining hours of every lock decrease by 1", HourBoundaries::locksDecrease);
        terms("and a lock without remaining hours ends;", HourBoundaries::locksEnd);
        terms("then every ship whose due hour is less than the counter adds", HourBoundaries::dueHours);
        terms("1 coin to the fees for each container that is still on it", HourBoundaries::coinsOfContainers);
        terms("and 1 coin for the ship itself", HourBoundaries::coinOfShip);
    }

    private static void terms(String words, Runnable test) {
        Boundary.test(Boundary.TERMS, words, test);
    }

    private static ContainerTerminal at(int hour) {
        ContainerTerminal x = new ContainerTerminal();
        for (int left = hour; left > 0; left -= 100) {
            x.pass(Math.min(left, 100));
        }
        return x;
    }

    private static void tideIs(int hour, int tide) {
        Boundary.due("the tide at " + hour, tide, at(hour).tide());
    }

    private static void startsAtZero() {
        Boundary.answers(0, ContainerTerminal::new, ContainerTerminal::hour);
        Boundary.answers(0, ContainerTerminal::new, ContainerTerminal::tide);
        ContainerTerminal x = new ContainerTerminal();
        Boundary.due("a ship due at hour 0", 1, x.moor(0, 4, 0));
        Boundary.throwsDue(IllegalArgumentException.class, x, y -> y.moor(1, 4, -1));
    }

    private static void rising() {
        for (int hour = 0; hour <= 6; hour++) {
            tideIs(hour, hour);
        }
    }

    private static void falling() {
        int[] tides = {5, 4, 3, 2, 1};
        for (int hour = 7; hour <= 11; hour++) {
            tideIs(hour, tides[hour - 7]);
        }
    }

    private static void wrapsAround() {
        int[] hours = {11, 12, 13, 17, 18, 19, 23, 24, 25, 100, 600, 606, 1199, 1201};
        int[] tides = {1, 0, 1, 5, 6, 5, 1, 0, 1, 4, 0, 6, 1, 1};
        for (int index = 0; index < hours.length; index++) {
            tideIs(hours[index], tides[index]);
        }
        ContainerTerminal x = at(0);
        for (int count = 1; count <= 505; count++) {
            x.pass(100);
        }
        Boundary.due("hour and tide after 505 times 100 hours", "50500 4", x.hour() + " " + x.tide());
    }

    private static void floating() {
        for (int draught = 1; draught <= 9; draught++) {
            for (int hour = 0; hour <= 12; hour++) {
                ContainerTerminal x = at(hour);
                x.moor(2, draught, hour);
                boolean floats = x.tide() >= draught - 4;
                String what = "draught " + draught + " at hour " + hour;
                Boundary.due(what + " floats", floats, x.floats(2));
                Boundary.due(what + " can leave", floats, x.canLeave(2));
                Boundary.due(what + " waits", floats, x.hoursUntilFloating(2) == 0);
            }
        }
    }

    private static void counter() {
        ContainerTerminal x = at(0);
        x.pass(1);
        Boundary.due("after one hour", 1, x.hour());
        x.pass(2);
        Boundary.due("after two more", 3, x.hour());
        x.pass(100);
        Boundary.due("after a hundred more", 103, x.hour());
    }

    /** At hour 1, berth 0 is locked for 1 hour more and berth 2 for 2. */
    private static ContainerTerminal twoLocks() {
        ContainerTerminal x = Scenes.loaded();
        for (int count = 0; count < 3; count++) {
            Check.clearWrong(x, 0, 0);
        }
        x.pass(1);
        for (int count = 0; count < 3; count++) {
            Check.clearWrong(x, 2, 3);
        }
        return x;
    }

    private static String locks(ContainerTerminal x) {
        return x.lockedHours(0) + " " + x.lockedHours(1) + " " + x.lockedHours(2);
    }

    private static void locksDecrease() {
        ContainerTerminal x = twoLocks();
        Boundary.due("at first", "1 0 2", locks(x));
        x.pass(1);
        Boundary.due("one hour later", "0 0 1", locks(x));
        x.pass(1);
        Boundary.due("two hours later", "0 0 0", locks(x));
        x.pass(1);
        Boundary.due("three hours later", "0 0 0", locks(x));
        ContainerTerminal y = twoLocks();
        y.pass(2);
        Boundary.due("two hours at once", "0 0 0", locks(y));
        ContainerTerminal z = twoLocks();
        z.pass(100);
        Boundary.due("a hundred hours at once", "0 0 0", locks(z));
    }

    private static void locksEnd() {
        ContainerTerminal x = twoLocks();
        Boundary.throwsDue(IllegalStateException.class, x, y -> y.clear(0, 1, 6));
        x.pass(1);
        Boundary.due("the lock without hours", false, Check.clearWrong(x, 0, 1));
        Boundary.due("counts anew", 1, x.wrongAnswers(0));
        Boundary.throwsDue(IllegalStateException.class, x, y -> y.clear(2, 0, 1));
        x.pass(1);
        Boundary.due("the other lock without hours", true, Check.clearRight(x, 2, 0));
    }

    private static void dueHours() {
        for (int dueIn : new int[] {0, 1, 2, 99, 100, 999}) {
            ContainerTerminal x = at(5);
            x.moor(1, 4, 5 + dueIn);
            for (int left = dueIn; left > 0; left -= 100) {
                Boundary.due("up to the due hour", 0, x.pass(Math.min(left, 100)));
            }
            Boundary.due("at the due hour", "0 " + (5 + dueIn), x.fees() + " " + x.hour());
            Boundary.due("one hour over it", 1, x.pass(1));
            Boundary.due("two hours over it", 1, x.pass(1));
            Boundary.due("the fees", 2, x.fees());
        }
        ContainerTerminal y = at(5);
        y.moor(0, 4, 6);
        y.moor(1, 4, 7);
        y.moor(2, 4, 8);
        Boundary.due("over none", 0, y.feesAfter(1));
        Boundary.due("over one due hour", 1, y.feesAfter(2));
        Boundary.due("over two", 3, y.feesAfter(3));
        Boundary.due("over three", 6, y.feesAfter(4));
    }

    private static void coinsOfContainers() {
        for (int count = 0; count <= 20; count++) {
            ContainerTerminal x = new ContainerTerminal();
            x.moor(2, 4, 0);
            x.moor(0, 4, 50);
            x.stow(0, 0, 1, 1);
            for (int index = 0; index < count; index++) {
                x.stow(2, index % 4, 30, index);
            }
            Boundary.due(count + " containers", count + 1, x.pass(1));
            if (count > 0) {
                Check.clearRight(x, 2, 0);
                Boundary.due("one of " + count + " in the yard", count, x.pass(1));
            }
        }
    }

    private static void coinOfShip() {
        ContainerTerminal x = new ContainerTerminal();
        x.moor(0, 4, 0);
        Boundary.due("one ship", 1, x.pass(1));
        x.moor(1, 4, 1);
        Boundary.due("two ships", 2, x.pass(1));
        x.moor(2, 4, 2);
        Boundary.due("three ships", 3, x.pass(1));
        x.leave(0);
        x.leave(1);
        x.leave(2);
        Boundary.due("no ship", 0, x.pass(100));
        Boundary.due("the fees", 6, x.fees());
    }
}
