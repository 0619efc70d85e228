import java.util.ArrayDeque;
import java.util.ArrayList;
import java.util.Comparator;
import java.util.Deque;
import java.util.HashMap;
import java.util.HashSet;
import java.util.List;
import java.util.Map;
import java.util.NoSuchElementException;
import java.util.Set;
import java.util.regex.Matcher;
import java.util.regex.Pattern;

/**
 * The document told a second time, in another way than the program: ships and containers are objects in lists, copies
 * are made anew, and programs are recognised by a regular expression. ModelTest compares the two.
 */
public final class Model {
    private static final Pattern PROGRAM = program();

    private record Box(int id, int weight, int key) {
        int answer() {
            return (key * 7 + weight) % 10;
        }
    }

    private static final class Ship {
        final int draught;
        final int due;
        int wrong;
        int lock;
        final List<List<Box>> stacks = new ArrayList<>();

        Ship(int draught, int due) {
            this.draught = draught;
            this.due = due;
            for (int stack = 0; stack < 4; stack++) {
                stacks.add(new ArrayList<>());
            }
        }

        Ship copy() {
            Ship copy = new Ship(draught, due);
            copy.wrong = wrong;
            copy.lock = lock;
            for (int stack = 0; stack < 4; stack++) {
                copy.stacks.get(stack).addAll(stacks.get(stack));
            }
            return copy;
        }

        List<Box> load() {
            List<Box> load = new ArrayList<>();
            stacks.forEach(load::addAll);
            return load;
        }
    }

    private static final class World {
        final Ship[] ships = new Ship[3];
        final List<Box> yard = new ArrayList<>();
        int hour;
        int fees;
        int stowed;
        int cleared;
        int delivered;
        int wrong;

        World copy() {
            World copy = new World();
            for (int berth = 0; berth < 3; berth++) {
                copy.ships[berth] = ships[berth] == null ? null : ships[berth].copy();
            }
            copy.yard.addAll(yard);
            copy.hour = hour;
            copy.fees = fees;
            copy.stowed = stowed;
            copy.cleared = cleared;
            copy.delivered = delivered;
            copy.wrong = wrong;
            return copy;
        }

        List<Box> shipped() {
            List<Box> shipped = new ArrayList<>();
            for (Ship ship : ships) {
                if (ship != null) {
                    shipped.addAll(ship.load());
                }
            }
            return shipped;
        }

        List<Box> all() {
            List<Box> all = shipped();
            all.addAll(yard);
            return all;
        }
    }

    private World world = new World();
    private World saved = null;
    private final Deque<World> past = new ArrayDeque<>();
    private String buffer = "";
    private String line = "";
    private int error = -1;
    private int failed = -1;
    private boolean inRun = false;

    private static Pattern program() {
        String digit = "[0-9]";
        String number = "[0-9]{1,3}";
        String command = "(moor D D N|stow DD N/N|clear DD=D|move DDD|deliver N|leave D|hours N)";
        command = command.replace("D", digit).replace("N", number);
        return Pattern.compile(command + "(;" + command + ")*");
    }

    private void change(World after) {
        if (!inRun) {
            past.push(world);
            if (past.size() > 8) {
                past.removeLast();
            }
        }
        world = after;
    }

    private static void inRange(int value, int least, int most) {
        if (value < least || value > most) {
            throw new IllegalArgumentException();
        }
    }

    private static void place(int berth, int... stacks) {
        if (berth < 0 || berth > 2) {
            throw new IndexOutOfBoundsException();
        }
        for (int stack : stacks) {
            if (stack < 0 || stack > 3) {
                throw new IndexOutOfBoundsException();
            }
        }
    }

    private static void state(boolean right) {
        if (!right) {
            throw new IllegalStateException();
        }
    }

    private static <T> T find(T thing) {
        if (thing == null) {
            throw new NoSuchElementException();
        }
        return thing;
    }

    private Ship ship(int berth, int... stacks) {
        place(berth, stacks);
        return find(world.ships[berth]);
    }

    private static Box at(List<Box> pile, int index) {
        return find(index >= 0 && index < pile.size() ? pile.get(index) : null);
    }

    private static Box last(List<Box> pile) {
        return at(pile, pile.size() - 1);
    }

    private static Box withId(List<Box> boxes, int id) {
        return find(boxes.stream().filter(box -> box.id == id).findAny().orElse(null));
    }

    private List<Box> pileOf(int id) {
        Box box = withId(world.shipped(), id);
        return world.ships[berthOf(id)].stacks.stream().filter(pile -> pile.contains(box)).findAny().orElseThrow();
    }

    private static int tideAt(int hour) {
        return new int[] {0, 1, 2, 3, 4, 5, 6, 5, 4, 3, 2, 1}[hour % 12];
    }

    public int moor(int berth, int draught, int dueHour) {
        place(berth);
        inRange(draught, 1, 9);
        inRange(dueHour, world.hour, world.hour + 999);
        state(world.ships[berth] == null);
        World after = world.copy();
        after.ships[berth] = new Ship(draught, dueHour);
        change(after);
        return shipCount();
    }

    public int stow(int berth, int stack, int weight, int key) {
        place(berth, stack);
        inRange(weight, 1, 30);
        inRange(key, 0, 99);
        state(world.ships[berth] != null && world.ships[berth].stacks.get(stack).size() < 5);
        World after = world.copy();
        after.ships[berth].stacks.get(stack).add(new Box(after.stowed++, weight, key));
        change(after);
        return after.stowed - 1;
    }

    public boolean clear(int berth, int stack, int answer) {
        place(berth, stack);
        inRange(answer, 0, 9);
        state(world.ships[berth] != null && world.ships[berth].lock == 0);
        state(!world.ships[berth].stacks.get(stack).isEmpty() && world.yard.size() < 15);
        World after = world.copy();
        Ship ship = after.ships[berth];
        List<Box> pile = ship.stacks.get(stack);
        boolean right = last(pile).answer() == answer;
        if (right) {
            after.yard.add(pile.remove(pile.size() - 1));
            after.cleared++;
        } else {
            after.wrong++;
            after.fees += 5;
            ship.wrong = (ship.wrong + 1) % 3;
            ship.lock = ship.wrong == 0 ? 2 : 0;
        }
        change(after);
        return right;
    }

    public int move(int berth, int from, int to) {
        place(berth, from, to);
        if (from == to) {
            throw new IllegalArgumentException();
        }
        state(world.ships[berth] != null && !world.ships[berth].stacks.get(from).isEmpty());
        state(world.ships[berth].stacks.get(to).size() < 5);
        World after = world.copy();
        List<Box> pile = after.ships[berth].stacks.get(from);
        Box box = pile.remove(pile.size() - 1);
        after.ships[berth].stacks.get(to).add(box);
        change(after);
        return box.id;
    }

    public int deliver(int id) {
        Box box = withId(world.yard, id);
        World after = world.copy();
        after.yard.remove(box);
        after.delivered++;
        change(after);
        return after.yard.size();
    }

    public int leave(int berth) {
        place(berth);
        state(canLeave(berth));
        World after = world.copy();
        after.ships[berth] = null;
        change(after);
        return shipCount();
    }

    public int pass(int hours) {
        inRange(hours, 1, 100);
        World after = world.copy();
        int before = after.fees;
        for (int hour = 0; hour < hours; hour++) {
            after.hour++;
            for (Ship ship : after.ships) {
                if (ship != null) {
                    ship.lock = Math.max(0, ship.lock - 1);
                    after.fees += ship.due < after.hour ? ship.load().size() + 1 : 0;
                }
            }
        }
        change(after);
        return after.fees - before;
    }

    public int hour() {
        return world.hour;
    }

    public int tide() {
        return tideAt(world.hour);
    }

    public int shipCount() {
        int count = 0;
        for (Ship ship : world.ships) {
            count += ship == null ? 0 : 1;
        }
        return count;
    }

    public boolean isMoored(int berth) {
        place(berth);
        return world.ships[berth] != null;
    }

    public int draught(int berth) {
        return ship(berth).draught;
    }

    public int dueHour(int berth) {
        return ship(berth).due;
    }

    public boolean floats(int berth) {
        return hoursUntilFloating(berth) == 0;
    }

    public int hoursUntilFloating(int berth) {
        int hours = 0;
        while (4 + tideAt(world.hour + hours) < ship(berth).draught) {
            hours++;
        }
        return hours;
    }

    public int hoursUntilFloatingByTide(int berth) {
        return hoursUntilFloating(berth);
    }

    public int mostUrgent() {
        Comparator<Integer> order = Comparator.<Integer>comparingInt(berth -> world.ships[berth].due)
            .thenComparingInt(berth -> -world.ships[berth].load().size()).thenComparingInt(berth -> berth);
        List<Integer> moored = new ArrayList<>();
        for (int berth = 0; berth < 3; berth++) {
            if (world.ships[berth] != null) {
                moored.add(berth);
            }
        }
        return find(moored.stream().min(order).orElse(null));
    }

    public boolean canLeave(int berth) {
        place(berth);
        return isMoored(berth) && containersOn(berth) == 0 && floats(berth);
    }

    public int lockedHours(int berth) {
        return isMoored(berth) ? world.ships[berth].lock : 0;
    }

    public int wrongAnswers(int berth) {
        return isMoored(berth) ? world.ships[berth].wrong : 0;
    }

    public int stackHeight(int berth, int stack) {
        return ship(berth, stack).stacks.get(stack).size();
    }

    public int containerAt(int berth, int stack, int level) {
        return at(ship(berth, stack).stacks.get(stack), level).id;
    }

    public int topOf(int berth, int stack) {
        return last(ship(berth, stack).stacks.get(stack)).id;
    }

    public int containersOn(int berth) {
        return ship(berth).load().size();
    }

    public int weightOn(int berth) {
        return ship(berth).load().stream().mapToInt(Box::weight).sum();
    }

    public int weightOnByContainers(int berth) {
        return weightOn(berth);
    }

    public boolean isOnShip(int id) {
        return world.shipped().stream().anyMatch(box -> box.id == id);
    }

    public boolean isInYard(int id) {
        return world.yard.stream().anyMatch(box -> box.id == id);
    }

    public int weightOf(int id) {
        return withId(world.all(), id).weight;
    }

    public int keyOf(int id) {
        return withId(world.all(), id).key;
    }

    public int answerOf(int id) {
        return withId(world.all(), id).answer();
    }

    public int berthOf(int id) {
        Box box = withId(world.shipped(), id);
        int berth = 0;
        while (world.ships[berth] == null || !world.ships[berth].load().contains(box)) {
            berth++;
        }
        return berth;
    }

    public int stackOf(int id) {
        return world.ships[berthOf(id)].stacks.indexOf(pileOf(id));
    }

    public int levelOf(int id) {
        return pileOf(id).indexOf(withId(world.all(), id));
    }

    public int movesToReach(int id) {
        return pileOf(id).size() - 1 - levelOf(id);
    }

    public int movesToReachByCopy(int id) {
        return movesToReach(id);
    }

    private static Comparator<Box> heaviestFirst() {
        return Comparator.<Box>comparingInt(box -> -box.weight).thenComparingInt(box -> box.id);
    }

    public int heaviestAbove(int id) {
        List<Box> pile = pileOf(id);
        return find(pile.subList(levelOf(id) + 1, pile.size()).stream().min(heaviestFirst()).orElse(null)).id;
    }

    public int containerByWeight(int rank) {
        List<Box> boxes = world.shipped();
        boxes.sort(heaviestFirst());
        return at(boxes, rank).id;
    }

    public int emptiestStack(int berth) {
        int[] heights = ship(berth).stacks.stream().mapToInt(List::size).toArray();
        int stack = 0;
        for (int other = 3; other >= 0; other--) {
            stack = heights[other] <= heights[stack] ? other : stack;
        }
        int least = heights[stack];
        stack = 0;
        while (heights[stack] != least) {
            stack++;
        }
        return stack;
    }

    public int heavyOverLight(int berth, int stack) {
        List<Box> pile = ship(berth, stack).stacks.get(stack);
        int pairs = 0;
        for (Box lower : pile) {
            pairs += (int) pile.subList(pile.indexOf(lower), pile.size()).stream()
                .filter(upper -> upper.weight > lower.weight).count();
        }
        return pairs;
    }

    public int differentKeys() {
        Set<Integer> keys = new HashSet<>();
        world.all().forEach(box -> keys.add(box.key));
        return keys.size();
    }

    public int keyTwins() {
        Map<String, Integer> seen = new HashMap<>();
        int pairs = 0;
        for (Box box : world.all()) {
            pairs += seen.merge(box.key + "/" + box.weight, 1, Integer::sum) - 1;
        }
        return pairs;
    }

    public int keyTwinsByGroups() {
        return keyTwins();
    }

    public int yardCount() {
        return world.yard.size();
    }

    public int yardAt(int position) {
        return at(world.yard, position).id;
    }

    public int feesAfter(int hours) {
        inRange(hours, 1, 100);
        int coins = 0;
        for (Ship ship : world.ships) {
            if (ship != null) {
                int late = Math.min(hours, Math.max(0, world.hour + hours - ship.due));
                coins += late * (1 + ship.load().size());
            }
        }
        return coins;
    }

    public int fees() {
        return world.fees;
    }

    public int clearedTotal() {
        return world.cleared;
    }

    public int deliveredTotal() {
        return world.delivered;
    }

    public int wrongTotal() {
        return world.wrong;
    }

    public double meanHeight() {
        if (shipCount() == 0) {
            throw new ArithmeticException();
        }
        return (double) world.shipped().size() / (4 * shipCount());
    }

    public float rightShare() {
        if (world.cleared + world.wrong == 0) {
            throw new ArithmeticException();
        }
        return (float) world.cleared / (world.cleared + world.wrong);
    }

    public boolean isConsistent() {
        return true;
    }

    public int formatStack(int berth, int stack) {
        List<String> parts = new ArrayList<>();
        ship(berth, stack).stacks.get(stack).forEach(box -> parts.add(box.id + ":" + box.weight + "/" + box.key));
        line = String.join(" ", parts);
        return line.length();
    }

    public int formatBerth(int berth) {
        place(berth);
        Ship ship = world.ships[berth];
        line = "B" + berth + (ship == null ? " -" : " d" + ship.draught + " h" + ship.due + " " + ship.load().size()
            + (ship.wrong > 0 ? " x" + ship.wrong : "") + (ship.lock > 0 ? " L" + ship.lock : ""));
        return line.length();
    }

    public char lineChar(int index) {
        if (index < 0 || index >= line.length()) {
            throw new IndexOutOfBoundsException();
        }
        return line.charAt(index);
    }

    public int append(char character) {
        inRange(character, ' ', '~');
        state(buffer.length() < 60);
        buffer += character;
        return buffer.length();
    }

    private static boolean canStart(String text) {
        Matcher matcher = PROGRAM.matcher(text);
        return matcher.matches() || matcher.hitEnd();
    }

    public int run() {
        String text = buffer;
        buffer = "";
        if (!PROGRAM.matcher(text).matches()) {
            int good = 0;
            while (good < text.length() && canStart(text.substring(0, good + 1))) {
                good++;
            }
            error = good;
            throw new IllegalArgumentException();
        }
        String[] commands = text.split(";");
        World before = world;
        for (int index = 0; index < commands.length; index++) {
            if (!succeeds(commands[index])) {
                world = before;
                failed = index;
                throw new IllegalStateException();
            }
        }
        World after = world;
        world = before;
        change(after);
        return commands.length;
    }

    private boolean succeeds(String command) {
        inRun = true;
        try {
            execute(command);
            return true;
        } catch (IllegalStateException | IllegalArgumentException | IndexOutOfBoundsException
                | NoSuchElementException thrown) {
            return false;
        } finally {
            inRun = false;
        }
    }

    private void execute(String command) {
        String word = command.substring(0, command.indexOf(' '));
        String rest = command.substring(command.indexOf(' ') + 1);
        switch (word) {
            case "moor" -> moor(rest.charAt(0) - '0', rest.charAt(2) - '0', Integer.parseInt(rest.substring(4)));
            case "stow" -> stow(rest.charAt(0) - '0', rest.charAt(1) - '0',
                Integer.parseInt(rest.substring(3, rest.indexOf('/'))),
                Integer.parseInt(rest.substring(rest.indexOf('/') + 1)));
            case "clear" -> clear(rest.charAt(0) - '0', rest.charAt(1) - '0', rest.charAt(3) - '0');
            case "move" -> move(rest.charAt(0) - '0', rest.charAt(1) - '0', rest.charAt(2) - '0');
            case "deliver" -> deliver(Integer.parseInt(rest));
            case "leave" -> leave(rest.charAt(0) - '0');
            default -> pass(Integer.parseInt(rest));
        }
    }

    public int errorPosition() {
        return find(error < 0 ? null : error);
    }

    public int failedCommand() {
        return find(failed < 0 ? null : failed);
    }

    public int undoableCount() {
        return past.size();
    }

    public int undo() {
        state(!past.isEmpty());
        world = past.pop();
        return past.size();
    }

    public int save() {
        saved = world;
        return shipCount();
    }

    public int restore() {
        state(saved != null);
        world = saved;
        past.clear();
        return shipCount();
    }
}
