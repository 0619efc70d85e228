import java.lang.reflect.InvocationTargetException;
import java.lang.reflect.Method;
import java.util.ArrayList;
import java.util.Comparator;
import java.util.List;
import java.util.Random;
import java.util.Set;

/**
 * Promises 1 to 65: runs of 512 calls, drawn from fixed seeds, on the program and on the model of it. After each run
 * every question is asked about all that is there; the document leaves these later answers free, but this program
 * answers them as it does the earlier ones.
 */
public final class ModelTest {
    private static final int RUNS = 1500;
    private static final int CALLS = 512;
    private static final String[] CHANGES = {"stow", "stow", "stow", "stow", "stow", "clear", "clear", "clear", "clear",
        "clear", "move", "move", "moor", "pass", "pass", "deliver", "leave", "undo", "undo", "save", "restore", "run"};

    /** The calls that askAll leaves out: they change more than the line. */
    private static final Set<String> CHANGING = Set.of("stow", "clear", "move", "moor", "pass", "deliver", "leave",
        "undo", "save", "restore", "run", "append");

    private final Random random;
    private final ContainerTerminal terminal = new ContainerTerminal();
    private final Model model = new Model();
    private final List<String> calls = new ArrayList<>();
    private final List<Method> methods;
    /** How many of a hundred calls ask something, and how often a wrong answer or a wrong argument is drawn. */
    private final int questions;
    private final int mistakes;
    private final int wrongAnswers;
    private final int longestPass;
    private final boolean goesBack;

    private ModelTest(int seed, List<Method> methods) {
        this.random = new Random(seed);
        this.methods = methods;
        this.questions = 10 + random.nextInt(50);
        this.mistakes = random.nextInt(15);
        this.wrongAnswers = random.nextInt(60);
        this.longestPass = random.nextBoolean() ? 3 : 100;
        this.goesBack = random.nextBoolean();
    }

    public static void main(String[] arguments) throws ReflectiveOperationException {
        List<Method> methods = new ArrayList<>(List.of(ContainerTerminal.class.getDeclaredMethods()));
        methods.removeIf(method -> !java.lang.reflect.Modifier.isPublic(method.getModifiers()));
        // The order in which reflection tells methods is free; the runs are to be the same each time.
        methods.sort(Comparator.comparing(Method::getName));
        Check.due("number of methods", 64, methods.size());
        for (int seed = 0; seed < RUNS; seed++) {
            ModelTest test = new ModelTest(seed, methods);
            boolean right = test.run();
            Check.due("run " + seed + ": " + (right ? "" : test.calls), true, right);
            if (!right) {
                break;
            }
        }
        Check.end();
    }

    private boolean run() throws ReflectiveOperationException {
        while (calls.size() < CALLS) {
            boolean right = random.nextInt(100) < questions ? anyCall() : change();
            if (!right) {
                return false;
            }
        }
        return askAll();
    }

    private boolean anyCall() throws ReflectiveOperationException {
        Method method = methods.get(random.nextInt(methods.size()));
        boolean rare = method.getName().matches("append|run|restore|save") || CHANGING.contains(method.getName());
        return rare && random.nextInt(4) > 0 || call(method, arguments(method));
    }

    private boolean askAll() throws ReflectiveOperationException {
        boolean right = true;
        for (Method method : methods) {
            if (!CHANGING.contains(method.getName())) {
                for (Object[] arguments : allArguments(method)) {
                    right = right && call(method, arguments);
                }
            }
        }
        return right;
    }

    private List<Object[]> allArguments(Method method) {
        List<Object[]> all = new ArrayList<>();
        all.add(new Object[0]);
        for (int place = 0; place < method.getParameterCount(); place++) {
            int most = isById(method) ? 130 : method.getName().equals("feesAfter") ? 101
                : method.getParameterCount() == 1 ? 61 : 5;
            List<Object[]> longer = new ArrayList<>();
            for (Object[] start : all) {
                for (int value = -1; value <= most; value++) {
                    Object[] arguments = java.util.Arrays.copyOf(start, place + 1);
                    arguments[place] = value;
                    longer.add(arguments);
                }
            }
            all = longer;
        }
        return all;
    }

    private static boolean isById(Method method) {
        return method.getParameterCount() == 1
            && method.getName().matches("deliver|isOnShip|isInYard|.*Of|movesToReach.*|heaviestAbove");
    }

    private boolean change() throws ReflectiveOperationException {
        String name = CHANGES[random.nextInt(CHANGES.length)];
        boolean back = name.equals("restore") || name.equals("undo");
        if (back && (!goesBack || random.nextInt(3) > 0) || name.equals("leave") && random.nextInt(3) > 0) {
            return true;
        }
        if (name.equals("run")) {
            return type();
        }
        for (Method method : methods) {
            if (method.getName().equals(name)) {
                return call(method, arguments(method));
            }
        }
        throw new IllegalStateException(name);
    }

    private boolean type() throws ReflectiveOperationException {
        if (random.nextInt(3) > 0) {
            return true;
        }
        for (char character : program().toCharArray()) {
            if (!call(ContainerTerminal.class.getMethod("append", char.class), character)) {
                return false;
            }
        }
        return call(ContainerTerminal.class.getMethod("run"));
    }

    private String program() {
        StringBuilder text = new StringBuilder();
        int commands = 1 + random.nextInt(5);
        for (int index = 0; index < commands; index++) {
            text.append(index > 0 ? ";" : "").append(command());
        }
        if (random.nextInt(3) == 0) {
            damage(text);
        }
        return text.toString();
    }

    private void damage(StringBuilder text) {
        int place = random.nextInt(text.length());
        switch (random.nextInt(4)) {
            case 0 -> text.deleteCharAt(place);
            case 1 -> text.insert(place, text.charAt(random.nextInt(text.length())));
            case 2 -> text.setCharAt(place, (char) (' ' + random.nextInt(95)));
            default -> text.setLength(place);
        }
    }

    private String command() {
        int berth = Math.max(0, Math.min(9, place(3)));
        int stack = Math.max(0, Math.min(9, place(4)));
        int to = Math.max(0, Math.min(9, place(4)));
        return switch (random.nextInt(8)) {
            case 0 -> "moor " + berth + " " + random.nextInt(10) + " " + (model.hour() + random.nextInt(9)) % 1000;
            case 1, 2 -> "stow " + berth + stack + " " + (1 + random.nextInt(30)) + "/" + random.nextInt(100);
            case 3, 4 -> "clear " + berth + stack + "=" + Math.floorMod(answer(berth, stack), 10);
            case 5 -> "move " + berth + stack + to;
            case 6 -> random.nextBoolean() ? "leave " + berth : "deliver " + Math.floorMod(id(), 1000);
            default -> "hours " + random.nextInt(4);
        };
    }

    private Object[] arguments(Method method) {
        int berth = place(3);
        int stack = place(4);
        switch (method.getName()) {
            case "moor":
                return new Object[] {berth, within(1, 9), model.hour() + dueIn()};
            case "stow":
                return new Object[] {berth, stack, within(1, random.nextBoolean() ? 3 : 30),
                    within(0, random.nextBoolean() ? 3 : 99)};
            case "clear":
                return new Object[] {berth, stack, answer(berth, stack)};
            case "move":
                return new Object[] {berth, stack, place(4)};
            case "containerAt":
                return new Object[] {berth, stack, place(5)};
            case "pass":
            case "feesAfter":
                return new Object[] {within(1, longestPass)};
            case "append":
                return new Object[] {(char) (30 + random.nextInt(100))};
            case "lineChar":
                return new Object[] {within(0, 12)};
            case "containerByWeight":
            case "yardAt":
                return new Object[] {within(0, 14)};
            default:
                break;
        }
        if (method.getParameterCount() == 0) {
            return new Object[0];
        }
        return isById(method) ? new Object[] {id()} : method.getParameterCount() == 1 ? new Object[] {berth}
            : new Object[] {berth, stack};
    }

    private int dueIn() {
        return random.nextInt(100) < mistakes ? random.nextInt(1100) - 50 : random.nextInt(20);
    }

    private int within(int least, int most) {
        if (random.nextInt(100) >= mistakes) {
            return least + random.nextInt(most - least + 1);
        }
        int[] edges = {least, most, least - 1, most + 1, Integer.MIN_VALUE, Integer.MAX_VALUE};
        return edges[random.nextInt(edges.length)];
    }

    private int place(int count) {
        return within(0, count - 1);
    }

    private int id() {
        if (random.nextInt(3) > 0 && model.yardCount() > 0) {
            return model.yardAt(random.nextInt(model.yardCount()));
        }
        Object onShip = Check.outcome(() -> model.containerByWeight(random.nextInt(30)));
        return onShip instanceof Integer && random.nextInt(3) > 0 ? (Integer) onShip : within(0, 120);
    }

    private int answer(int berth, int stack) {
        Object top = Check.outcome(() -> model.topOf(berth, stack));
        boolean wrong = random.nextInt(100) < wrongAnswers;
        return wrong || !(top instanceof Integer) ? within(0, 9) : model.answerOf((Integer) top);
    }

    private boolean call(Method method, Object... arguments) throws ReflectiveOperationException {
        Object got = outcome(terminal, method, arguments);
        Method due = Model.class.getMethod(method.getName(), method.getParameterTypes());
        Object want = outcome(model, due, arguments);
        calls.add(method.getName() + java.util.Arrays.toString(arguments) + "=" + got);
        if (!want.equals(got)) {
            System.out.println("due is " + want);
        }
        return want.equals(got);
    }

    private static Object outcome(Object object, Method method, Object[] arguments) throws IllegalAccessException {
        try {
            return method.invoke(object, arguments);
        } catch (InvocationTargetException thrown) {
            return thrown.getCause().getClass();
        }
    }
}
