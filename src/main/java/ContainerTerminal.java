import java.util.NoSuchElementException;

/** A container terminal with ships at berths, stacks of containers, clearance answers, a yard, tides, and fees. */
public final class ContainerTerminal {
    private static final int BERTHS = 3;
    private static final int STACKS = 4;
    private static final int LEVELS = 5;
    private static final int YARD_PLACES = 15;
    /** A pile is a stack (0 to 11, berth by berth) or the yard, whose levels are its positions. */
    private static final int YARD = 12;
    private static final int MOST_CONTAINERS = 75;
    private static final int MOST_HOURS = 100;
    private static final int TIDE_HOURS = 12;
    private static final int LOWEST_WATER = 4;
    private static final int UNDO_DEPTH = 8;
    private static final int BUFFER_LENGTH = 60;
    /** Eight rows, though no program of 60 characters has more than seven whole commands: the eighth is begun. */
    private static final int COMMAND_ROWS = 8;
    private static final int ARGUMENTS = 4;
    private static final int LINE_LENGTH = 100;
    private static final int NONE = -1;

    private static final int NO_FAULT = 0;
    private static final int NO_SUCH_PLACE = 1;
    private static final int BAD_ARGUMENT = 2;
    private static final int NOT_NOW = 3;
    private static final int NOT_FOUND = 4;

    private static final int MOOR = 1;
    private static final int STOW = 2;
    private static final int CLEAR = 3;
    private static final int MOVE = 4;
    private static final int DELIVER = 5;
    private static final int LEAVE = 6;
    private static final int PASS = 7;

    private final State now = new State();
    private final State trial = new State();
    private final State saved = new State();
    private boolean hasSaved = false;
    private final History history = new History();
    private final Program program = new Program();
    private final Input input = new Input();
    private final Line line = new Line();
    private int storedErrorPosition = NONE;
    private int storedFailedCommand = NONE;

    public ContainerTerminal() {
    }

    // Changes

    public int moor(int berth, int draught, int dueHour)
            throws IndexOutOfBoundsException, IllegalArgumentException, IllegalStateException {
        raise(now.mooringFault(berth, draught, dueHour));
        history.push(now);
        now.putShip(berth, draught, dueHour);
        return now.ships();
    }

    public int stow(int berth, int stack, int weight, int key)
            throws IndexOutOfBoundsException, IllegalArgumentException, IllegalStateException {
        raise(now.stowingFault(berth, stack, weight, key));
        history.push(now);
        return now.putContainer(berth, stack, weight, key);
    }

    public boolean clear(int berth, int stack, int answer)
            throws IndexOutOfBoundsException, IllegalArgumentException, IllegalStateException {
        raise(now.clearingFault(berth, stack, answer));
        history.push(now);
        return now.tryAnswer(berth, stack, answer);
    }

    public int move(int berth, int from, int to)
            throws IndexOutOfBoundsException, IllegalArgumentException, IllegalStateException {
        raise(now.movingFault(berth, from, to));
        history.push(now);
        return now.shiftTop(berth, from, to);
    }

    public int deliver(int id) throws NoSuchElementException {
        raise(now.deliveringFault(id));
        history.push(now);
        now.handOver(id);
        return now.cargo.height(YARD);
    }

    public int leave(int berth) throws IndexOutOfBoundsException, IllegalStateException {
        raise(now.leavingFault(berth));
        history.push(now);
        now.takeShip(berth);
        return now.ships();
    }

    public int pass(int hours) throws IllegalArgumentException {
        raise(passingFault(hours));
        history.push(now);
        return now.letHoursPass(hours);
    }

    // Hours and ships

    public int hour() {
        return now.hour;
    }

    public int tide() {
        return tideAt(now.hour);
    }

    public int shipCount() {
        return now.ships();
    }

    public boolean isMoored(int berth) throws IndexOutOfBoundsException {
        requireBerth(berth);
        return now.hasShip(berth);
    }

    public int draught(int berth) throws IndexOutOfBoundsException, NoSuchElementException {
        requireShip(berth);
        return now.draughts[berth];
    }

    public int dueHour(int berth) throws IndexOutOfBoundsException, NoSuchElementException {
        requireShip(berth);
        return now.dueHours[berth];
    }

    public boolean floats(int berth) throws IndexOutOfBoundsException, NoSuchElementException {
        requireShip(berth);
        return now.floatsAfter(berth, 0);
    }

    public int hoursUntilFloating(int berth) throws IndexOutOfBoundsException, NoSuchElementException {
        requireShip(berth);
        return now.waitHourByHour(berth);
    }

    public int hoursUntilFloatingByTide(int berth) throws IndexOutOfBoundsException, NoSuchElementException {
        requireShip(berth);
        return now.waitByTide(berth);
    }

    public int mostUrgent() throws NoSuchElementException {
        int berth = now.urgentBerth();
        if (berth == NONE) {
            throw new NoSuchElementException("no ship is moored");
        }
        return berth;
    }

    public boolean canLeave(int berth) throws IndexOutOfBoundsException {
        requireBerth(berth);
        return now.leavingFault(berth) == NO_FAULT;
    }

    public int lockedHours(int berth) throws IndexOutOfBoundsException {
        requireBerth(berth);
        return now.locks[berth];
    }

    public int wrongAnswers(int berth) throws IndexOutOfBoundsException {
        requireBerth(berth);
        return now.wrongs[berth];
    }

    // Stacks

    public int stackHeight(int berth, int stack) throws IndexOutOfBoundsException, NoSuchElementException {
        requireStack(berth, stack);
        return now.cargo.height(pileOf(berth, stack));
    }

    public int containerAt(int berth, int stack, int level)
            throws IndexOutOfBoundsException, NoSuchElementException {
        requireStack(berth, stack);
        return now.cargo.id(found(now.cargo.rowAt(pileOf(berth, stack), level)));
    }

    public int topOf(int berth, int stack) throws IndexOutOfBoundsException, NoSuchElementException {
        requireStack(berth, stack);
        return now.cargo.id(found(now.cargo.topRow(pileOf(berth, stack))));
    }

    public int containersOn(int berth) throws IndexOutOfBoundsException, NoSuchElementException {
        requireShip(berth);
        return now.cargo.loadOf(berth);
    }

    public int weightOn(int berth) throws IndexOutOfBoundsException, NoSuchElementException {
        requireShip(berth);
        return now.cargo.weightByStacks(berth);
    }

    public int weightOnByContainers(int berth) throws IndexOutOfBoundsException, NoSuchElementException {
        requireShip(berth);
        return now.cargo.weightByIds(berth);
    }

    // Containers

    public boolean isOnShip(int id) {
        return now.cargo.shipRowOf(id) != NONE;
    }

    public boolean isInYard(int id) {
        return now.cargo.yardRowOf(id) != NONE;
    }

    public int weightOf(int id) throws NoSuchElementException {
        return now.cargo.weight(found(now.cargo.rowOf(id)));
    }

    public int keyOf(int id) throws NoSuchElementException {
        return now.cargo.key(found(now.cargo.rowOf(id)));
    }

    public int answerOf(int id) throws NoSuchElementException {
        return now.cargo.answer(found(now.cargo.rowOf(id)));
    }

    public int berthOf(int id) throws NoSuchElementException {
        return now.cargo.pile(found(now.cargo.shipRowOf(id))) / STACKS;
    }

    public int stackOf(int id) throws NoSuchElementException {
        return now.cargo.pile(found(now.cargo.shipRowOf(id))) % STACKS;
    }

    public int levelOf(int id) throws NoSuchElementException {
        return now.cargo.level(found(now.cargo.shipRowOf(id)));
    }

    public int movesToReach(int id) throws NoSuchElementException {
        return now.cargo.countAbove(found(now.cargo.shipRowOf(id)));
    }

    public int movesToReachByCopy(int id) throws NoSuchElementException {
        return now.cargo.digOnCopy(found(now.cargo.shipRowOf(id)));
    }

    public int heaviestAbove(int id) throws NoSuchElementException {
        return now.cargo.id(found(now.cargo.heaviestRowAbove(found(now.cargo.shipRowOf(id)))));
    }

    public int containerByWeight(int rank) throws NoSuchElementException {
        return now.cargo.id(found(now.cargo.rowByWeight(rank)));
    }

    public int emptiestStack(int berth) throws IndexOutOfBoundsException, NoSuchElementException {
        requireShip(berth);
        return now.cargo.lowestStack(berth);
    }

    public int heavyOverLight(int berth, int stack) throws IndexOutOfBoundsException, NoSuchElementException {
        requireStack(berth, stack);
        return now.cargo.heavyOverLightPairs(pileOf(berth, stack));
    }

    public int differentKeys() {
        return now.cargo.countKeys();
    }

    public int keyTwins() {
        return now.cargo.twinsByPairs();
    }

    public int keyTwinsByGroups() {
        return now.cargo.twinsInGroups();
    }

    // Yard, fees and totals

    public int yardCount() {
        return now.cargo.height(YARD);
    }

    public int yardAt(int position) throws NoSuchElementException {
        return now.cargo.id(found(now.cargo.rowAt(YARD, position)));
    }

    public int feesAfter(int hours) throws IllegalArgumentException {
        raise(passingFault(hours));
        trial.copyFrom(now);
        return trial.letHoursPass(hours);
    }

    public int fees() {
        return now.fees;
    }

    public int clearedTotal() {
        return now.cleared;
    }

    public int deliveredTotal() {
        return now.delivered;
    }

    public int wrongTotal() {
        return now.wrong;
    }

    public double meanHeight() throws ArithmeticException {
        int stacks = STACKS * now.ships();
        if (stacks == 0) {
            throw new ArithmeticException("no ship is moored");
        }
        return (double) now.cargo.onShips() / (double) stacks;
    }

    public float rightShare() throws ArithmeticException {
        int answers = now.cleared + now.wrong;
        if (answers == 0) {
            throw new ArithmeticException("there were no answers");
        }
        return (float) now.cleared / (float) answers;
    }

    public boolean isConsistent() {
        return now.shipsAgree() && now.cargo.digsAgree()
            && now.cargo.twinsByPairs() == now.cargo.twinsInGroups()
            && now.nextId == now.cargo.onShips() + now.cargo.height(YARD) + now.delivered;
    }

    // The line

    public int formatStack(int berth, int stack) throws IndexOutOfBoundsException, NoSuchElementException {
        requireStack(berth, stack);
        line.writeStack(now.cargo, pileOf(berth, stack));
        return line.length;
    }

    public int formatBerth(int berth) throws IndexOutOfBoundsException {
        requireBerth(berth);
        line.writeBerth(now, berth);
        return line.length;
    }

    public char lineChar(int index) throws IndexOutOfBoundsException {
        if (!line.hasIndex(index)) {
            throw new IndexOutOfBoundsException("the line has no such index");
        }
        return line.text[index];
    }

    // Commands

    public int append(char character) throws IllegalArgumentException, IllegalStateException {
        if (character < ' ' || character > '~') {
            throw new IllegalArgumentException("the character is out of range");
        }
        if (input.length >= BUFFER_LENGTH) {
            throw new IllegalStateException("the buffer is full");
        }
        input.take(character);
        return input.length;
    }

    public int run() throws IllegalArgumentException, IllegalStateException {
        boolean wellFormed = input.readInto(program);
        input.length = 0;
        if (!wellFormed) {
            storedErrorPosition = input.position;
            throw new IllegalArgumentException("the program is malformed");
        }
        trial.copyFrom(now);
        int failed = program.firstFailureOn(trial);
        if (failed != NONE) {
            storedFailedCommand = failed;
            throw new IllegalStateException("a command failed");
        }
        history.push(now);
        now.copyFrom(trial);
        return program.count;
    }

    public int errorPosition() throws NoSuchElementException {
        return found(storedErrorPosition);
    }

    public int failedCommand() throws NoSuchElementException {
        return found(storedFailedCommand);
    }

    // Undo and the saved copy

    public int undoableCount() {
        return history.count;
    }

    public int undo() throws IllegalStateException {
        if (history.count == 0) {
            throw new IllegalStateException("no change can be undone");
        }
        history.popInto(now);
        return history.count;
    }

    public int save() {
        saved.copyFrom(now);
        hasSaved = true;
        return now.ships();
    }

    public int restore() throws IllegalStateException {
        if (!hasSaved) {
            throw new IllegalStateException("there is no saved copy");
        }
        now.copyFrom(saved);
        history.count = 0;
        return now.ships();
    }

    // Tests of arguments

    private static void raise(int fault) {
        switch (fault) {
            case NO_SUCH_PLACE:
                throw new IndexOutOfBoundsException("there is no such berth or stack");
            case BAD_ARGUMENT:
                throw new IllegalArgumentException("an argument is out of range");
            case NOT_NOW:
                throw new IllegalStateException("the terminal is not in the state for this");
            case NOT_FOUND:
                throw new NoSuchElementException("there is no such ship or container");
            default:
                break;
        }
    }

    private static void requireBerth(int berth) {
        raise(isBerth(berth) ? NO_FAULT : NO_SUCH_PLACE);
    }

    private void requireShip(int berth) {
        requireBerth(berth);
        raise(now.hasShip(berth) ? NO_FAULT : NOT_FOUND);
    }

    private void requireStack(int berth, int stack) {
        raise(isStack(stack) ? NO_FAULT : NO_SUCH_PLACE);
        requireShip(berth);
    }

    /** Hands on a row or a stored index that is there, and throws for one that is not. */
    private static int found(int row) {
        raise(row == NONE ? NOT_FOUND : NO_FAULT);
        return row;
    }

    private static boolean isBerth(int berth) {
        return berth >= 0 && berth < BERTHS;
    }

    private static boolean isStack(int stack) {
        return stack >= 0 && stack < STACKS;
    }

    private static int pileOf(int berth, int stack) {
        return berth * STACKS + stack;
    }

    private static int passingFault(int hours) {
        return hours < 1 || hours > MOST_HOURS ? BAD_ARGUMENT : NO_FAULT;
    }

    private static int tideAt(int hour) {
        int phase = Math.floorMod(hour, TIDE_HOURS);
        return phase <= 6 ? phase : TIDE_HOURS - phase;
    }

    /** All containers on ships and in the yard, a row for each, in the order of ids. */
    private static final class Cargo {
        private final int[] ids = new int[MOST_CONTAINERS];
        private final int[] weights = new int[MOST_CONTAINERS];
        private final int[] keys = new int[MOST_CONTAINERS];
        private final int[] piles = new int[MOST_CONTAINERS];
        private final int[] levels = new int[MOST_CONTAINERS];
        private final int[] copiedStack = new int[LEVELS];
        private int count = 0;

        void copyFrom(Cargo other) {
            System.arraycopy(other.ids, 0, ids, 0, MOST_CONTAINERS);
            System.arraycopy(other.weights, 0, weights, 0, MOST_CONTAINERS);
            System.arraycopy(other.keys, 0, keys, 0, MOST_CONTAINERS);
            System.arraycopy(other.piles, 0, piles, 0, MOST_CONTAINERS);
            System.arraycopy(other.levels, 0, levels, 0, MOST_CONTAINERS);
            count = other.count;
        }

        void add(int id, int weight, int key, int pile) {
            if (count < 0 || count >= MOST_CONTAINERS) {
                return;
            }
            int level = height(pile);
            ids[count] = id;
            weights[count] = weight;
            keys[count] = key;
            piles[count] = pile;
            levels[count] = level;
            count++;
        }

        void put(int row, int pile) {
            if (!hasRow(row)) {
                return;
            }
            levels[row] = height(pile);
            piles[row] = pile;
        }

        /** Takes a container out of its pile and closes both gaps: the one in the pile and the one in the rows. */
        void remove(int row) {
            if (!hasRow(row)) {
                return;
            }
            for (int other = 0; other < count; other++) {
                if (isAbove(other, row)) {
                    lower(other);
                }
            }
            for (int next = row + 1; next < count; next++) {
                copyRow(next, next - 1);
            }
            count--;
        }

        private void lower(int row) {
            if (hasRow(row)) {
                levels[row]--;
            }
        }

        private void copyRow(int from, int to) {
            if (hasRow(from) && hasRow(to)) {
                ids[to] = ids[from];
                weights[to] = weights[from];
                keys[to] = keys[from];
                piles[to] = piles[from];
                levels[to] = levels[from];
            }
        }

        private boolean hasRow(int row) {
            return row >= 0 && row < count && row < MOST_CONTAINERS;
        }

        int id(int row) {
            return hasRow(row) ? ids[row] : NONE;
        }

        /** A row that is not there weighs nothing, and so does a level without a container. */
        int weight(int row) {
            return hasRow(row) ? weights[row] : 0;
        }

        int key(int row) {
            return hasRow(row) ? keys[row] : 0;
        }

        int answer(int row) {
            return (key(row) * 7 + weight(row)) % 10;
        }

        int pile(int row) {
            return hasRow(row) ? piles[row] : NONE;
        }

        int level(int row) {
            return hasRow(row) ? levels[row] : NONE;
        }

        int rowOf(int id) {
            for (int row = 0; row < count && row < MOST_CONTAINERS; row++) {
                if (ids[row] == id) {
                    return row;
                }
            }
            return NONE;
        }

        int shipRowOf(int id) {
            int row = rowOf(id);
            return pile(row) == YARD ? NONE : row;
        }

        int yardRowOf(int id) {
            int row = rowOf(id);
            return pile(row) == YARD ? row : NONE;
        }

        int rowAt(int pile, int level) {
            for (int row = 0; row < count && row < MOST_CONTAINERS; row++) {
                if (piles[row] == pile && levels[row] == level) {
                    return row;
                }
            }
            return NONE;
        }

        int topRow(int pile) {
            return rowAt(pile, height(pile) - 1);
        }

        int height(int pile) {
            int height = 0;
            for (int row = 0; row < count && row < MOST_CONTAINERS; row++) {
                if (piles[row] == pile) {
                    height++;
                }
            }
            return height;
        }

        private boolean isAt(int row, int berth) {
            return hasRow(row) && piles[row] != YARD && piles[row] / STACKS == berth;
        }

        int onShips() {
            return count - height(YARD);
        }

        int loadOf(int berth) {
            int load = 0;
            for (int stack = 0; stack < STACKS; stack++) {
                load += height(pileOf(berth, stack));
            }
            return load;
        }

        int weightByStacks(int berth) {
            int sum = 0;
            for (int stack = 0; stack < STACKS; stack++) {
                int pile = pileOf(berth, stack);
                for (int level = 0; level < LEVELS; level++) {
                    sum += weight(rowAt(pile, level));
                }
            }
            return sum;
        }

        int weightByIds(int berth) {
            int sum = 0;
            for (int row = 0; row < count; row++) {
                if (isAt(row, berth)) {
                    sum += weight(row);
                }
            }
            return sum;
        }

        private boolean isAbove(int upper, int lower) {
            return hasRow(upper) && hasRow(lower) && piles[upper] == piles[lower] && levels[upper] > levels[lower];
        }

        int countAbove(int row) {
            int above = 0;
            for (int other = 0; other < count; other++) {
                if (isAbove(other, row)) {
                    above++;
                }
            }
            return above;
        }

        int digOnCopy(int row) {
            int height = copyStack(pile(row));
            int moves = 0;
            while (height > 0 && height <= LEVELS && copiedStack[height - 1] != id(row)) {
                height--;
                moves++;
            }
            return moves;
        }

        private int copyStack(int pile) {
            int height = height(pile);
            for (int level = 0; level < height && level < LEVELS; level++) {
                copiedStack[level] = id(rowAt(pile, level));
            }
            return height;
        }

        boolean digsAgree() {
            for (int row = 0; row < count; row++) {
                if (pile(row) != YARD && countAbove(row) != digOnCopy(row)) {
                    return false;
                }
            }
            return true;
        }

        int heaviestRowAbove(int row) {
            int heaviest = NONE;
            for (int other = 0; other < count; other++) {
                if (isAbove(other, row) && (heaviest == NONE || weight(other) > weight(heaviest))) {
                    heaviest = other;
                }
            }
            return heaviest;
        }

        int rowByWeight(int rank) {
            for (int row = 0; row < count; row++) {
                if (pile(row) != YARD && rankOf(row) == rank) {
                    return row;
                }
            }
            return NONE;
        }

        private int rankOf(int row) {
            int rank = 0;
            for (int other = 0; other < count; other++) {
                boolean before = weight(other) > weight(row) || weight(other) == weight(row) && other < row;
                if (before && pile(other) != YARD) {
                    rank++;
                }
            }
            return rank;
        }

        int lowestStack(int berth) {
            int lowest = 0;
            for (int stack = 1; stack < STACKS; stack++) {
                if (height(pileOf(berth, stack)) < height(pileOf(berth, lowest))) {
                    lowest = stack;
                }
            }
            return lowest;
        }

        int heavyOverLightPairs(int pile) {
            int pairs = 0;
            for (int upper = 1; upper < LEVELS; upper++) {
                for (int lower = 0; lower < upper; lower++) {
                    if (weight(rowAt(pile, upper)) > weight(rowAt(pile, lower))) {
                        pairs++;
                    }
                }
            }
            return pairs;
        }

        int countKeys() {
            int different = 0;
            for (int row = 0; row < count; row++) {
                if (isFirstWithKey(row)) {
                    different++;
                }
            }
            return different;
        }

        private boolean isFirstWithKey(int row) {
            for (int earlier = 0; earlier < row; earlier++) {
                if (key(earlier) == key(row)) {
                    return false;
                }
            }
            return true;
        }

        private boolean areTwins(int one, int other) {
            return key(one) == key(other) && weight(one) == weight(other);
        }

        int twinsByPairs() {
            int pairs = 0;
            for (int later = 1; later < count; later++) {
                for (int earlier = 0; earlier < later; earlier++) {
                    if (areTwins(earlier, later)) {
                        pairs++;
                    }
                }
            }
            return pairs;
        }

        int twinsInGroups() {
            int pairs = 0;
            for (int row = 0; row < count; row++) {
                if (startsGroup(row)) {
                    int size = groupSize(row);
                    pairs += size * (size - 1) / 2;
                }
            }
            return pairs;
        }

        private boolean startsGroup(int row) {
            for (int earlier = 0; earlier < row; earlier++) {
                if (areTwins(earlier, row)) {
                    return false;
                }
            }
            return true;
        }

        private int groupSize(int row) {
            int size = 0;
            for (int other = 0; other < count; other++) {
                if (areTwins(other, row)) {
                    size++;
                }
            }
            return size;
        }
    }

    /** Everything that changes can change. A method whose name ends in Fault tells whether its change can be made. */
    private static final class State {
        private final Cargo cargo = new Cargo();
        /** A draught of 0 means that no ship is moored at the berth. */
        private final int[] draughts = new int[BERTHS];
        private final int[] dueHours = new int[BERTHS];
        private final int[] wrongs = new int[BERTHS];
        private final int[] locks = new int[BERTHS];
        private int hour = 0;
        private int fees = 0;
        private int nextId = 0;
        private int cleared = 0;
        private int delivered = 0;
        private int wrong = 0;

        void copyFrom(State other) {
            cargo.copyFrom(other.cargo);
            System.arraycopy(other.draughts, 0, draughts, 0, BERTHS);
            System.arraycopy(other.dueHours, 0, dueHours, 0, BERTHS);
            System.arraycopy(other.wrongs, 0, wrongs, 0, BERTHS);
            System.arraycopy(other.locks, 0, locks, 0, BERTHS);
            hour = other.hour;
            fees = other.fees;
            nextId = other.nextId;
            cleared = other.cleared;
            delivered = other.delivered;
            wrong = other.wrong;
        }

        boolean hasShip(int berth) {
            return isBerth(berth) && draughts[berth] != 0;
        }

        int ships() {
            int ships = 0;
            for (int berth = 0; berth < BERTHS; berth++) {
                if (hasShip(berth)) {
                    ships++;
                }
            }
            return ships;
        }

        int mooringFault(int berth, int draught, int dueHour) {
            if (!isBerth(berth)) {
                return NO_SUCH_PLACE;
            }
            if (draught < 1 || draught > 9 || dueHour < hour || dueHour - hour > 999) {
                return BAD_ARGUMENT;
            }
            return hasShip(berth) ? NOT_NOW : NO_FAULT;
        }

        void putShip(int berth, int draught, int dueHour) {
            if (isBerth(berth)) {
                draughts[berth] = draught;
                dueHours[berth] = dueHour;
            }
        }

        int stowingFault(int berth, int stack, int weight, int key) {
            if (!isBerth(berth) || !isStack(stack)) {
                return NO_SUCH_PLACE;
            }
            if (weight < 1 || weight > 30 || key < 0 || key > 99) {
                return BAD_ARGUMENT;
            }
            boolean full = cargo.height(pileOf(berth, stack)) >= LEVELS;
            return !hasShip(berth) || full ? NOT_NOW : NO_FAULT;
        }

        int putContainer(int berth, int stack, int weight, int key) {
            int id = nextId;
            cargo.add(id, weight, key, pileOf(berth, stack));
            nextId++;
            return id;
        }

        int clearingFault(int berth, int stack, int answer) {
            if (!isBerth(berth) || !isStack(stack)) {
                return NO_SUCH_PLACE;
            }
            if (answer < 0 || answer > 9) {
                return BAD_ARGUMENT;
            }
            boolean empty = cargo.height(pileOf(berth, stack)) == 0;
            boolean yardFull = cargo.height(YARD) >= YARD_PLACES;
            return !hasShip(berth) || locks[berth] > 0 || empty || yardFull ? NOT_NOW : NO_FAULT;
        }

        boolean tryAnswer(int berth, int stack, int answer) {
            int row = cargo.topRow(pileOf(berth, stack));
            if (cargo.answer(row) != answer) {
                countWrongAnswer(berth);
                return false;
            }
            cargo.put(row, YARD);
            cleared++;
            return true;
        }

        private void countWrongAnswer(int berth) {
            wrong++;
            fees += 5;
            if (!isBerth(berth)) {
                return;
            }
            wrongs[berth]++;
            if (wrongs[berth] >= 3) {
                wrongs[berth] = 0;
                locks[berth] = 2;
            }
        }

        int movingFault(int berth, int from, int to) {
            if (!isBerth(berth) || !isStack(from) || !isStack(to)) {
                return NO_SUCH_PLACE;
            }
            if (from == to) {
                return BAD_ARGUMENT;
            }
            boolean empty = cargo.height(pileOf(berth, from)) == 0;
            boolean full = cargo.height(pileOf(berth, to)) >= LEVELS;
            return !hasShip(berth) || empty || full ? NOT_NOW : NO_FAULT;
        }

        int shiftTop(int berth, int from, int to) {
            int row = cargo.topRow(pileOf(berth, from));
            cargo.put(row, pileOf(berth, to));
            return cargo.id(row);
        }

        int deliveringFault(int id) {
            return cargo.yardRowOf(id) == NONE ? NOT_FOUND : NO_FAULT;
        }

        void handOver(int id) {
            cargo.remove(cargo.yardRowOf(id));
            delivered++;
        }

        int leavingFault(int berth) {
            if (!isBerth(berth)) {
                return NO_SUCH_PLACE;
            }
            boolean free = hasShip(berth) && cargo.loadOf(berth) == 0 && floatsAfter(berth, 0);
            return free ? NO_FAULT : NOT_NOW;
        }

        void takeShip(int berth) {
            if (isBerth(berth)) {
                draughts[berth] = 0;
                dueHours[berth] = 0;
                wrongs[berth] = 0;
                locks[berth] = 0;
            }
        }

        int letHoursPass(int hours) {
            int coins = 0;
            for (int passed = 0; passed < hours; passed++) {
                coins += letHourPass();
            }
            return coins;
        }

        private int letHourPass() {
            int coins = 0;
            hour++;
            for (int berth = 0; berth < BERTHS; berth++) {
                if (locks[berth] > 0) {
                    locks[berth]--;
                }
                if (hasShip(berth) && dueHours[berth] < hour) {
                    coins += cargo.loadOf(berth) + 1;
                }
            }
            fees += coins;
            return coins;
        }

        boolean floatsAfter(int berth, int hours) {
            return hasShip(berth) && LOWEST_WATER + tideAt(hour + hours) >= draughts[berth];
        }

        int waitHourByHour(int berth) {
            int wait = 0;
            while (wait < TIDE_HOURS && !floatsAfter(berth, wait)) {
                wait++;
            }
            return wait;
        }

        /** The tide is at least t, for t from 1 to 6, in the hours t to 12 minus t of its 12 hours. */
        int waitByTide(int berth) {
            int needed = hasShip(berth) ? draughts[berth] - LOWEST_WATER : 0;
            int phase = Math.floorMod(hour, TIDE_HOURS);
            if (needed <= 0) {
                return 0;
            }
            if (phase < needed) {
                return needed - phase;
            }
            return phase <= TIDE_HOURS - needed ? 0 : TIDE_HOURS - phase + needed;
        }

        int urgentBerth() {
            int urgent = NONE;
            for (int berth = 0; berth < BERTHS; berth++) {
                if (hasShip(berth) && (urgent == NONE || isMoreUrgent(berth, urgent))) {
                    urgent = berth;
                }
            }
            return urgent;
        }

        private int dueAt(int berth) {
            return isBerth(berth) ? dueHours[berth] : 0;
        }

        private boolean isMoreUrgent(int berth, int other) {
            if (dueAt(berth) != dueAt(other)) {
                return dueAt(berth) < dueAt(other);
            }
            return cargo.loadOf(berth) > cargo.loadOf(other);
        }

        boolean shipsAgree() {
            for (int berth = 0; berth < BERTHS; berth++) {
                boolean weightsAgree = cargo.weightByStacks(berth) == cargo.weightByIds(berth);
                boolean waitsAgree = waitHourByHour(berth) == waitByTide(berth);
                if (hasShip(berth) && !(weightsAgree && waitsAgree)) {
                    return false;
                }
            }
            return true;
        }
    }

    /** The states before the latest changes, in a ring that the newest change enters at next. */
    private static final class History {
        private final State[] states = new State[UNDO_DEPTH];
        private int next = 0;
        private int count = 0;

        History() {
            for (int index = 0; index < UNDO_DEPTH; index++) {
                states[index] = new State();
            }
        }

        void push(State state) {
            State kept = stateAt(next);
            if (kept == null) {
                return;
            }
            kept.copyFrom(state);
            next = (next + 1) % UNDO_DEPTH;
            if (count < UNDO_DEPTH) {
                count++;
            }
        }

        void popInto(State state) {
            int latest = (next + UNDO_DEPTH - 1) % UNDO_DEPTH;
            State kept = stateAt(latest);
            if (kept == null) {
                return;
            }
            state.copyFrom(kept);
            next = latest;
            count--;
        }

        private State stateAt(int place) {
            return place >= 0 && place < UNDO_DEPTH ? states[place] : null;
        }
    }

    /** The commands that were read from the input buffer. */
    private static final class Program {
        private final int[] kinds = new int[COMMAND_ROWS];
        /** Places for the arguments of the first command, then for those of the second, and so on. */
        private final int[] arguments = new int[COMMAND_ROWS * ARGUMENTS];
        private int count = 0;

        void begin(int kind) {
            if (isRow(count)) {
                kinds[count] = kind;
                count++;
            }
        }

        /** Keeps an argument of the command that was begun last. */
        void keep(int place, int value) {
            if (isRow(count - 1) && isPlace(place)) {
                arguments[(count - 1) * ARGUMENTS + place] = value;
            }
        }

        private static boolean isRow(int command) {
            return command >= 0 && command < COMMAND_ROWS;
        }

        private static boolean isPlace(int place) {
            return place >= 0 && place < ARGUMENTS;
        }

        private int kind(int command) {
            return isRow(command) ? kinds[command] : NONE;
        }

        private int given(int command, int place) {
            return isRow(command) && isPlace(place) ? arguments[command * ARGUMENTS + place] : 0;
        }

        /** Carries the commands out up to the first one that fails, and returns its index. */
        int firstFailureOn(State state) {
            for (int command = 0; command < count; command++) {
                if (faultOf(state, command) != NO_FAULT) {
                    return command;
                }
                carryOut(state, command);
            }
            return NONE;
        }

        private int faultOf(State state, int command) {
            int first = given(command, 0);
            int second = given(command, 1);
            int third = given(command, 2);
            switch (kind(command)) {
                case MOOR:
                    return state.mooringFault(first, second, third);
                case STOW:
                    return state.stowingFault(first, second, third, given(command, 3));
                case CLEAR:
                    return state.clearingFault(first, second, third);
                case MOVE:
                    return state.movingFault(first, second, third);
                case DELIVER:
                    return state.deliveringFault(first);
                case LEAVE:
                    return state.leavingFault(first);
                default:
                    return passingFault(first);
            }
        }

        private void carryOut(State state, int command) {
            int first = given(command, 0);
            int second = given(command, 1);
            int third = given(command, 2);
            switch (kind(command)) {
                case MOOR:
                    state.putShip(first, second, third);
                    break;
                case STOW:
                    state.putContainer(first, second, third, given(command, 3));
                    break;
                case CLEAR:
                    state.tryAnswer(first, second, third);
                    break;
                case MOVE:
                    state.shiftTop(first, second, third);
                    break;
                case DELIVER:
                    state.handOver(first);
                    break;
                case LEAVE:
                    state.takeShip(first);
                    break;
                default:
                    state.letHoursPass(first);
                    break;
            }
        }
    }

    /**
     * The input buffer, and the reading of programs from it. Each read method moves the position behind what it has
     * read; one that returns false leaves it at the first character that no valid program can have there.
     */
    private static final class Input {
        private final char[] text = new char[BUFFER_LENGTH];
        private int length = 0;
        private int position = 0;

        void take(char character) {
            if (length < BUFFER_LENGTH) {
                text[length] = character;
                length++;
            }
        }

        boolean readInto(Program program) {
            position = 0;
            program.count = 0;
            for (int command = 0; command < COMMAND_ROWS; command++) {
                if (!readCommand(program)) {
                    return false;
                }
                if (position == length) {
                    return true;
                }
                if (!read(';')) {
                    return false;
                }
            }
            return false;
        }

        private boolean readCommand(Program program) {
            switch (nextChar()) {
                case 'm':
                    return read('m') && read('o') && (nextChar() == 'v' ? readMove(program) : readMoor(program));
                case 's':
                    return readStow(program);
                case 'c':
                    return readClear(program);
                case 'd':
                    program.begin(DELIVER);
                    return readWord("deliver ") && readNumber(program, 0);
                case 'l':
                    program.begin(LEAVE);
                    return readWord("leave ") && readDigit(program, 0);
                case 'h':
                    program.begin(PASS);
                    return readWord("hours ") && readNumber(program, 0);
                default:
                    return false;
            }
        }

        private boolean readMoor(Program program) {
            program.begin(MOOR);
            return readWord("or ") && readDigit(program, 0) && read(' ') && readDigit(program, 1)
                && read(' ') && readNumber(program, 2);
        }

        private boolean readMove(Program program) {
            program.begin(MOVE);
            return readWord("ve ") && readDigit(program, 0) && readDigit(program, 1) && readDigit(program, 2);
        }

        private boolean readStow(Program program) {
            program.begin(STOW);
            return readWord("stow ") && readDigit(program, 0) && readDigit(program, 1)
                && read(' ') && readNumber(program, 2) && read('/') && readNumber(program, 3);
        }

        private boolean readClear(Program program) {
            program.begin(CLEAR);
            return readWord("clear ") && readDigit(program, 0) && readDigit(program, 1)
                && read('=') && readDigit(program, 2);
        }

        /** The next character, or the character 0, which the buffer never holds, at its end. */
        private char nextChar() {
            return position >= 0 && position < length && position < BUFFER_LENGTH ? text[position] : (char) 0;
        }

        private boolean read(char expected) {
            if (nextChar() != expected) {
                return false;
            }
            position++;
            return true;
        }

        private boolean readWord(String word) {
            for (int index = 0; index < word.length(); index++) {
                if (!read(word.charAt(index))) {
                    return false;
                }
            }
            return true;
        }

        private boolean nextIsDigit() {
            return nextChar() >= '0' && nextChar() <= '9';
        }

        private boolean readDigit(Program program, int place) {
            if (!nextIsDigit()) {
                return false;
            }
            program.keep(place, nextChar() - '0');
            position++;
            return true;
        }

        private boolean readNumber(Program program, int place) {
            int value = 0;
            int digits = 0;
            while (digits < 3 && nextIsDigit()) {
                value = value * 10 + (nextChar() - '0');
                digits++;
                position++;
            }
            program.keep(place, value);
            return digits > 0;
        }
    }

    /** The formatted line. */
    private static final class Line {
        private final char[] text = new char[LINE_LENGTH];
        private int length = 0;

        void writeStack(Cargo cargo, int pile) {
            int height = cargo.height(pile);
            length = 0;
            for (int level = 0; level < height; level++) {
                int row = cargo.rowAt(pile, level);
                if (level > 0) {
                    put(' ');
                }
                putNumber(cargo.id(row));
                put(':');
                putNumber(cargo.weight(row));
                put('/');
                putNumber(cargo.key(row));
            }
        }

        void writeBerth(State state, int berth) {
            length = 0;
            put('B');
            putNumber(berth);
            if (!state.hasShip(berth)) {
                put(' ');
                put('-');
                return;
            }
            putPart('d', state.draughts[berth]);
            putPart('h', state.dueHours[berth]);
            put(' ');
            putNumber(state.cargo.loadOf(berth));
            if (state.wrongs[berth] > 0) {
                putPart('x', state.wrongs[berth]);
            }
            if (state.locks[berth] > 0) {
                putPart('L', state.locks[berth]);
            }
        }

        private void putPart(char letter, int number) {
            put(' ');
            put(letter);
            putNumber(number);
        }

        boolean hasIndex(int index) {
            return index >= 0 && index < length && index < LINE_LENGTH;
        }

        private void put(char character) {
            if (length < LINE_LENGTH) {
                text[length] = character;
                length++;
            }
        }

        private void putNumber(int number) {
            for (int unit = 1000000000; unit > 0; unit /= 10) {
                if (number >= unit || unit == 1) {
                    put((char) ('0' + number / unit % 10));
                }
            }
        }
    }
}
