import static java.lang.Integer.MAX_VALUE;
import static java.lang.Integer.MIN_VALUE;

import java.util.NoSuchElementException;

/** The edges that many methods share: berths, stacks, ships and ranges, just inside and just outside. */
final class Places {
    private Places() {
    }

    /** Berths outside are refused, whatever stands in the terminal; the step goes at the first and the last one. */
    static void noBerth(Boundary.Scene scene, Scenes.Numbered step) {
        for (int berth : new int[] {MIN_VALUE, -1, 3, MAX_VALUE}) {
            Boundary.refuses(IndexOutOfBoundsException.class, scene, x -> step.on(x, berth));
            Boundary.refuses(IndexOutOfBoundsException.class, Scenes::busy, x -> step.on(x, berth));
        }
        goes(scene, x -> step.on(x, 0));
        goes(scene, x -> step.on(x, 2));
    }

    static void noStack(Boundary.Scene scene, Scenes.Placed step) {
        for (int stack : new int[] {MIN_VALUE, -1, 4, MAX_VALUE}) {
            Boundary.refuses(IndexOutOfBoundsException.class, scene, x -> step.on(x, 1, stack));
            Boundary.refuses(IndexOutOfBoundsException.class, Scenes::busy, x -> step.on(x, 0, stack));
        }
        goes(scene, x -> step.on(x, 1, 0));
        goes(scene, x -> step.on(x, 1, 3));
    }

    /** At the one berth without a ship the step is refused, also after a ship has left; with a ship it goes. */
    static void noShip(Class<? extends RuntimeException> want, Scenes.Numbered step) {
        for (int berth = 0; berth < 3; berth++) {
            int place = berth;
            Boundary.refuses(want, () -> Scenes.without(place), x -> step.on(x, place));
            Boundary.refuses(want, () -> shipLeft(place), x -> step.on(x, place));
            goes(Scenes::loaded, x -> step.on(x, place));
        }
        Boundary.refuses(want, Scenes::busy, x -> step.on(x, 1));
    }

    private static ContainerTerminal shipLeft(int berth) {
        ContainerTerminal x = Scenes.without(berth);
        x.moor(berth, 4, 9);
        x.leave(berth);
        return x;
    }

    static void noShipFound(Scenes.Numbered step) {
        noShip(NoSuchElementException.class, step);
    }

    /** A range whose numbers outside are bad arguments. */
    static void range(int least, int most, Boundary.Scene scene, Scenes.Numbered step) {
        for (int value : new int[] {MIN_VALUE, least - 1, most + 1, MAX_VALUE}) {
            Boundary.refuses(IllegalArgumentException.class, scene, x -> step.on(x, value));
        }
        for (int value : new int[] {least, least + 1, most - 1, most}) {
            goes(scene, x -> step.on(x, value));
        }
    }

    /** Positions that start at 0, of which there are so many: those outside are not found. */
    static void positions(int count, Boundary.Scene scene, Scenes.Numbered step) {
        for (int position : new int[] {MIN_VALUE, -1, count, count + 1, MAX_VALUE}) {
            Boundary.refuses(NoSuchElementException.class, scene, x -> step.on(x, position));
        }
        for (int position = 0; position < count; position++) {
            int place = position;
            goes(scene, x -> step.on(x, place));
        }
    }

    /** Ids that a step does not find, and leaves everything as it was. */
    static void notFound(Boundary.Scene scene, Scenes.Numbered step, int... ids) {
        for (int id : ids) {
            Boundary.refuses(NoSuchElementException.class, scene, x -> step.on(x, id));
        }
    }

    static void goes(Boundary.Scene scene, Boundary.Step step) {
        ContainerTerminal x = scene.make();
        Object outcome = Check.outcome(() -> step.on(x));
        Boundary.due("the call that is in range, which answered " + outcome, false, outcome instanceof String);
    }
}
