import com.sun.management.ThreadMXBean;
import java.lang.management.ManagementFactory;

/** What a run makes: all objects and arrays are made by the constructor, and used again by every call. */
public final class RoomTest {
    private static final ThreadMXBean THREADS = (ThreadMXBean) ManagementFactory.getThreadMXBean();
    private static final int CALLS = 512;
    private static final long MOST_BYTES = 64 * 1024;

    public static void main(String[] arguments) {
        // The first object also loads the classes, which makes objects that are none of the program's.
        ContainerTerminal[] made = {new ContainerTerminal(), null};
        long before = bytes();
        made[1] = new ContainerTerminal();
        long used = bytes() - before;
        Check.due("the constructor makes " + used + " bytes, few", true, used < MOST_BYTES);
        ContainerTerminal x = fullTerminal();
        makesNothing("isConsistent", x::isConsistent);
        makesNothing("feesAfter", () -> x.feesAfter(100));
        makesNothing("formatStack", () -> x.formatStack(0, 0));
        makesNothing("formatBerth", () -> x.formatBerth(0));
        makesNothing("pass", () -> x.pass(1));
        makesNothing("save", x::save);
        makesNothing("restore", x::restore);
        makesNothing("containerByWeight", () -> x.containerByWeight(59));
        makesNothing("movesToReachByCopy", () -> x.movesToReachByCopy(15));
        makesNothing("keyTwinsByGroups", x::keyTwinsByGroups);
        makesNothing("append and run", () -> typeAndRun(x));
        Check.end();
    }

    private static ContainerTerminal fullTerminal() {
        ContainerTerminal x = new ContainerTerminal();
        for (int berth = 0; berth < 3; berth++) {
            x.moor(berth, 9, 5);
        }
        for (int id = 0; id < 75; id++) {
            x.stow(id % 3, id / 3 % 4, id % 30 + 1, id);
            if (id < 15) {
                Check.clearRight(x, id % 3, id / 3 % 4);
            }
        }
        return x;
    }

    private static int typeAndRun(ContainerTerminal x) {
        x.append('h');
        x.append('o');
        x.append('u');
        x.append('r');
        x.append('s');
        x.append(' ');
        x.append('1');
        return x.run();
    }

    private interface Made {
        void call();
    }

    private static void makesNothing(String name, Made made) {
        made.call();
        long before = bytes();
        for (int count = 0; count < CALLS; count++) {
            made.call();
        }
        long used = bytes() - before;
        Check.due("512 calls of " + name + " make " + used + " bytes, few", true, used < MOST_BYTES);
    }

    private static long bytes() {
        return THREADS.getThreadAllocatedBytes(Thread.currentThread().getId());
    }
}
