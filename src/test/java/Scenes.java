/** The terminals on which the tests of the boundary cases begin. */
final class Scenes {
    private Scenes() {
    }

    /** A step with one number: a berth, an id, a position or a value. */
    interface Numbered {
        Object on(ContainerTerminal x, int number);
    }

    interface Placed {
        Object on(ContainerTerminal x, int berth, int stack);
    }

    /** Three ships of draught 4, due at hour 100, without containers. */
    static ContainerTerminal threeShips() {
        ContainerTerminal x = new ContainerTerminal();
        for (int berth = 0; berth < 3; berth++) {
            x.moor(berth, 4, 100);
        }
        return x;
    }

    /** Three ships with one container on each stack: its id is 4 times the berth plus the stack, its weight 1 more. */
    static ContainerTerminal loaded() {
        ContainerTerminal x = threeShips();
        for (int id = 0; id < 12; id++) {
            x.stow(id / 4, id % 4, id + 1, id);
        }
        return x;
    }

    /** Ships with one container on each stack at two berths, and none at the third. */
    static ContainerTerminal without(int berth) {
        ContainerTerminal x = new ContainerTerminal();
        for (int other = 0; other < 3; other++) {
            if (other != berth) {
                x.moor(other, 4, 100);
                for (int stack = 0; stack < 4; stack++) {
                    x.stow(other, stack, stack + 1, stack);
                }
            }
        }
        return x;
    }

    /** A yard with so many containers, and one container more on stack 0 at berth 0. */
    static ContainerTerminal yard(int count) {
        ContainerTerminal x = new ContainerTerminal();
        x.moor(0, 4, 100);
        for (int id = 0; id < count; id++) {
            x.stow(0, 1, 1 + id, id);
            Check.clearRight(x, 0, 1);
        }
        x.stow(0, 0, 3, 0);
        return x;
    }

    /**
     * 60 containers on the ships and 15 in the yard: no terminal holds more. The ids 0 to 14 are in the yard, those
     * from 15 on lie at the berths in turn; their key is the id, their weight the id modulo 30 and 1 more.
     */
    static ContainerTerminal full() {
        ContainerTerminal x = threeShips();
        for (int id = 0; id < 75; id++) {
            int weight = id % 30 + 1;
            x.stow(id % 3, id / 3 % 4, weight, id);
            if (id < 15) {
                x.clear(id % 3, id / 3 % 4, (7 * id + weight) % 10);
            }
        }
        return x;
    }

    /** A ship at berth 0 with two containers on stack 0 and one on stack 1, and so many wrong answers. */
    static ContainerTerminal wrong(int answers) {
        ContainerTerminal x = Check.stacked(3, 4);
        x.stow(0, 1, 5, 5);
        for (int count = 0; count < answers; count++) {
            Check.clearWrong(x, 0, 0);
        }
        return x;
    }

    /** The quiet terminal, with a text in the input buffer. */
    static ContainerTerminal busy() {
        ContainerTerminal x = quiet();
        Check.type(x, "hours 3");
        return x;
    }

    /**
     * Something stands everywhere but in the buffer: at berth 0 a ship that is due, with a full stack 0, one container
     * (5) on stack 1 and two wrong answers; at berth 2 a locked ship that does not float; no ship at berth 1; the
     * containers 9 and 8 in the yard; a line, the stored error position 6 and the stored index 1, a saved copy, and
     * four changes that can be undone.
     */
    static ContainerTerminal quiet() {
        ContainerTerminal x = new ContainerTerminal();
        Check.run(x, "hours x");
        Check.run(x, "hours 1;leave 0");
        x.pass(2);
        x.moor(0, 6, 2);
        x.moor(2, 9, 40);
        for (int weight = 1; weight <= 5; weight++) {
            x.stow(0, 0, weight, weight);
        }
        x.stow(0, 1, 30, 99);
        x.stow(2, 3, 7, 7);
        x.stow(2, 3, 8, 8);
        x.stow(0, 2, 9, 9);
        x.stow(0, 2, 10, 10);
        for (int count = 0; count < 3; count++) {
            Check.clearWrong(x, 2, 3);
        }
        Check.clearWrong(x, 0, 2);
        Check.clearRight(x, 0, 2);
        x.save();
        x.restore();
        x.pass(1);
        x.clear(0, 1, 0);
        Check.clearRight(x, 0, 2);
        x.move(2, 3, 0);
        x.formatBerth(0);
        return x;
    }
}
