import java.util.NoSuchElementException;

/** The boundary cases of the Terms on commands, and of promises 58 to 61: the buffer, programs, and their failures. */
final class CommandBoundaries {
    private static final Class<IllegalArgumentException> ARGUMENT = IllegalArgumentException.class;
    private static final Class<IllegalStateException> STATE = IllegalStateException.class;
    private static final String MALFORMED = "throws java.lang.IllegalArgumentException";
    private static final String FAILED = "throws java.lang.IllegalStateException";
    private static final String SIXTY = "moor 0 4 12;moor 1 4 999;leave 0;hours 10;hours 100;hours 01";

    /** In a form, D stands for a digit and N for a number. */
    private static final String[] FORMS = {"moor D D N", "stow DD N/N", "clear DD=D", "move DDD", "deliver N",
        "leave D", "hours N"};

    private CommandBoundaries() {
    }

    static void run() {
        terms("The input buffer holds up to 60 characters.", CommandBoundaries::sixty);
        terms("where { x } means zero or more repetitions of x", CommandBoundaries::repetitions);
        terms("program = command { \";\" command }", CommandBoundaries::separators);
        commandForms();
        terms("number = digit | digit digit | digit digit digit", CommandBoundaries::numbers);
        terms("In stow and clear, the two digits are the berth and the stack;", CommandBoundaries::stowAndClear);
        terms("in move, the three digits are the berth, the stack from which and the stack to which a container is "
            + "moved.", CommandBoundaries::moves);
        terms("The commands correspond to the methods moor, stow, clear, move, deliver, leave and pass, with the "
            + "arguments in the same order.", CommandBoundaries::asMethods);
        terms("A wrong answer in clear is no failure of the command.", CommandBoundaries::wrongAnswer);
        terms("The error position of a malformed program is the index of the first character that no valid program "
            + "can have there after the characters before it", CommandBoundaries::firstWrongCharacter);
        terms("or the length of the program if it is a proper prefix of a valid program.", CommandBoundaries::prefixes);
        terms("Keywords are matched letter by letter.", CommandBoundaries::keywords);
        append();
        programs();
        stored();
    }

    private static void terms(String words, Runnable test) {
        Boundary.test(Boundary.TERMS, words, test);
    }

    private static void malformedAt(String text, int position) {
        ContainerTerminal x = new ContainerTerminal();
        Boundary.due("run \"" + text + "\"", MALFORMED, Check.run(x, text));
        Boundary.due("the error position of \"" + text + "\"", position, Check.outcome(x::errorPosition));
    }

    /** The program is well formed: it runs, or a command of it fails. */
    private static void wellFormed(String text) {
        ContainerTerminal x = new ContainerTerminal();
        Object outcome = Check.run(x, text);
        Boundary.due("run \"" + text + "\", which answered " + outcome, false, MALFORMED.equals(outcome));
        Boundary.throwsDue(NoSuchElementException.class, x, ContainerTerminal::errorPosition);
    }

    private static void sixty() {
        ContainerTerminal x = new ContainerTerminal();
        for (int round = 0; round < 3; round++) {
            for (int count = 1; count <= 60; count++) {
                Boundary.due("append", count, x.append(' '));
            }
            Boundary.throwsDue(STATE, x, y -> y.append(' '));
            Boundary.throwsDue(ARGUMENT, x, ContainerTerminal::run);
        }
        Check.type(x, SIXTY);
        Boundary.throwsDue(STATE, x, y -> y.append('1'));
        Boundary.due("a program of 60 characters", 6, x.run());
        Boundary.due("its hours", 111, x.hour());
    }

    private static void repetitions() {
        StringBuilder text = new StringBuilder();
        for (int count = 1; count <= 7; count++) {
            text.append(count > 1 ? ";" : "").append("hours ").append(count);
            ContainerTerminal x = new ContainerTerminal();
            Boundary.due("run " + text, count, Check.run(x, text.toString()));
            Boundary.due("the hours of " + text, count * (count + 1) / 2, x.hour());
        }
        malformedAt("", 0);
        malformedAt(text + ";", 56);
        malformedAt(text + ";lea", 59);
    }

    private static void separators() {
        malformedAt(";", 0);
        malformedAt(";hours 1", 0);
        malformedAt("hours 1;", 8);
        malformedAt("hours 1;;hours 1", 8);
        malformedAt("hours 1 ;hours 1", 7);
        malformedAt("hours 1; hours 1", 8);
        malformedAt("hours 1,hours 1", 7);
        malformedAt("hours 1hours 1", 7);
        malformedAt("leave 0leave 0", 7);
        wellFormed("leave 0;leave 0");
        wellFormed("hours 100;hours 100");
    }

    private static String filled(String form) {
        return form.replace('D', '1').replace('N', '2');
    }

    private static void commandForms() {
        String[] words = {"\"moor \" digit \" \" digit \" \" number", "\"stow \" digit digit \" \" number \"/\" number",
            "\"clear \" digit digit \"=\" digit", "\"move \" digit digit digit", "\"deliver \" number",
            "\"leave \" digit", "\"hours \" number"};
        for (int index = 0; index < words.length; index++) {
            String form = FORMS[index];
            terms(words[index], () -> {
                wellFormed(filled(form));
                wellFormed(filled(form) + ";" + filled(form));
                malformedAt(filled(form) + " ", filled(form).length());
                malformedAt(filled(form) + "~", filled(form).length());
                everySign(form, "");
                everySign(form, "hours 1;");
            });
        }
    }

    /** At each place of the form, each sign from ' ' to '~': the ones of the grammar go on, the others end there. */
    private static void everySign(String form, String before) {
        String text = before + filled(form);
        for (int place = 0; place < form.length(); place++) {
            String start = text.substring(0, before.length() + place);
            for (char sign = ' '; sign <= '~'; sign++) {
                boolean goesOn = mayStand(sign, form, place);
                if (!goesOn) {
                    malformedAt(start + sign, start.length());
                } else if (place < form.length() - 1) {
                    malformedAt(start + sign, start.length() + 1);
                } else {
                    wellFormed(start + sign);
                }
            }
        }
    }

    private static boolean mayStand(char sign, String form, int place) {
        char due = form.charAt(place);
        if (place == 0) {
            return "mscdlh".indexOf(sign) >= 0;
        }
        if (place == 2 && form.startsWith("mo")) {
            return sign == 'o' || sign == 'v';
        }
        if (place > 0 && form.charAt(place - 1) == 'N' && sign >= '0' && sign <= '9') {
            return true;
        }
        return due == 'D' || due == 'N' ? sign >= '0' && sign <= '9' : sign == due;
    }

    private static void numbers() {
        String[] starts = {"moor 0 4 ", "stow 00 ", "stow 00 1/", "deliver ", "hours "};
        for (String start : starts) {
            String end = start.equals("stow 00 ") ? "/1" : "";
            malformedAt(start + end, start.length());
            wellFormed(start + "0" + end);
            wellFormed(start + "9" + end);
            wellFormed(start + "10" + end);
            wellFormed(start + "99" + end);
            wellFormed(start + "000" + end);
            wellFormed(start + "999" + end);
            malformedAt(start + "1000" + end, start.length() + 3);
            malformedAt(start + "0000" + end, start.length() + 3);
            malformedAt(start + "-1" + end, start.length());
            malformedAt(start + "+1" + end, start.length());
            malformedAt(start + "1 0" + end, start.length() + 1);
        }
        numbersCount();
    }

    private static void numbersCount() {
        String[] written = {"1", "01", "001", "10", "010", "99", "099", "100"};
        int[] hours = {1, 1, 1, 10, 10, 99, 99, 100};
        for (int index = 0; index < written.length; index++) {
            ContainerTerminal x = new ContainerTerminal();
            Check.run(x, "hours " + written[index]);
            Boundary.due("hours " + written[index], hours[index], x.hour());
        }
        for (String refused : new String[] {"0", "00", "000", "101", "999"}) {
            Boundary.due("hours " + refused, FAILED, Check.run(new ContainerTerminal(), "hours " + refused));
        }
        ContainerTerminal x = new ContainerTerminal();
        Check.run(x, "moor 0 4 999;stow 03 030/099;stow 02 1/0");
        Boundary.due("three digits", "999 30 99", x.dueHour(0) + " " + x.weightOf(0) + " " + x.keyOf(0));
        Boundary.due("one digit", "1 0", x.weightOf(1) + " " + x.keyOf(1));
    }

    private static void stowAndClear() {
        for (int place = 0; place < 12; place++) {
            ContainerTerminal x = Scenes.threeShips();
            int berth = place / 4;
            int stack = place % 4;
            Boundary.due("stow", 1, Check.run(x, "stow " + berth + stack + " 1/0"));
            Boundary.due("its place", berth + " " + stack, x.berthOf(0) + " " + x.stackOf(0));
            Boundary.due("clear", 1, Check.run(x, "clear " + berth + stack + "=1"));
            Boundary.due("cleared", true, x.isInYard(0));
        }
        for (String places : new String[] {"30", "04", "32", "90", "09"}) {
            Boundary.answers(FAILED, Scenes::loaded, x -> Check.run(x, "stow " + places + " 1/0"));
            Boundary.answers(FAILED, Scenes::loaded, x -> Check.run(x, "clear " + places + "=1"));
        }
        malformedAt("stow 0 1 1/0", 6);
        malformedAt("clear 0=1", 7);
    }

    private static void moves() {
        for (int berth = 0; berth < 3; berth++) {
            for (int from = 0; from < 4; from++) {
                int to = 3 - from;
                ContainerTerminal x = Scenes.loaded();
                int id = 4 * berth + from;
                Boundary.due("move", 1, Check.run(x, "move " + berth + from + to));
                Boundary.due("its place", berth + " " + to + " 1",
                    x.berthOf(id) + " " + x.stackOf(id) + " " + x.levelOf(id));
            }
        }
        for (String places : new String[] {"301", "041", "014", "000", "133", "910", "090", "009"}) {
            Boundary.answers(FAILED, Scenes::loaded, x -> Check.run(x, "move " + places));
        }
    }

    private static void asMethods() {
        same("moor 1 9 345", x -> x.moor(1, 9, 345));
        same("stow 21 30/45", x -> x.stow(2, 1, 30, 45));
        same("clear 01=3", x -> x.clear(0, 1, 3));
        same("clear 01=4", x -> x.clear(0, 1, 4));
        same("move 001", x -> x.move(0, 0, 1));
        same("deliver 9", x -> x.deliver(9));
        same("hours 100", x -> x.pass(100));
        for (int number = 0; number < 3; number++) {
            int berth = number;
            same(Scenes::threeShips, "leave " + number, x -> x.leave(berth));
            same(CommandBoundaries::threeShipsAndYard, "deliver " + number, x -> x.deliver(berth));
        }
    }

    private static ContainerTerminal threeShipsAndYard() {
        ContainerTerminal x = Scenes.yard(3);
        x.moor(1, 4, 100);
        x.moor(2, 4, 100);
        return x;
    }

    private static void same(String command, Boundary.Step step) {
        same(Scenes::quiet, command, step);
    }

    private static void same(Boundary.Scene scene, String command, Boundary.Step step) {
        ContainerTerminal x = scene.make();
        Boundary.due(command, 1, Check.run(x, command));
        ContainerTerminal y = scene.make();
        step.on(y);
        Boundary.due("the terminal after " + command, Whole.tell(y), Whole.tell(x));
    }

    private static void wrongAnswer() {
        ContainerTerminal x = Scenes.wrong(0);
        Boundary.due("one wrong answer", 1, Check.run(x, "clear 00=3"));
        Boundary.due("counts", "1 5 0", x.wrongAnswers(0) + " " + x.fees() + " " + x.lockedHours(0));
        Boundary.due("two more", 3, Check.run(x, "clear 00=0;clear 00=1;hours 1"));
        Boundary.due("lock", "0 15 1", x.wrongAnswers(0) + " " + x.fees() + " " + x.lockedHours(0));
        Boundary.throwsDue(NoSuchElementException.class, x, ContainerTerminal::failedCommand);
        ContainerTerminal y = Scenes.wrong(0);
        Boundary.due("a fourth", FAILED, Check.run(y, "clear 00=3;clear 00=3;clear 00=3;clear 00=2"));
        Boundary.due("failed", 3, y.failedCommand());
        Boundary.due("none of them counts", "0 0 0", y.wrongAnswers(0) + " " + y.fees() + " " + y.lockedHours(0));
    }

    private static void firstWrongCharacter() {
        malformedAt("x", 0);
        malformedAt("xyz!", 0);
        malformedAt("hours 1;x", 8);
        malformedAt("hours x;hours y", 6);
        malformedAt("hours 1;hours 1;hours 1;hours 1;hours 1;hours 1;hours 1;houx", 59);
        malformedAt("hours 1;hours 1;hours 1;hours 1;hours 1;hours 1;hours 1;x", 56);
        malformedAt("hours 1;hours 1;hours 1;hours 1;hours 1;hours 1;hours 1x", 55);
        malformedAt("moor 3 0 0;moor 1 4 5 ", 21);
        malformedAt("leave 9;leave 9;leave", 21);
        // A command that would fail is no error, and no more is one behind it.
        malformedAt("leave 0;hours 0;hours ?", 22);
    }

    private static void prefixes() {
        for (String form : FORMS) {
            String text = filled(form);
            for (int length = 0; length < text.length(); length++) {
                malformedAt(text.substring(0, length), length);
                malformedAt("leave 9;" + text.substring(0, length), 8 + length);
            }
        }
        malformedAt("hours 1;hours 1;hours 1;hours 1;hours 1;hours 1;hours 1;leav", 60);
        malformedAt("hours 001;hours 001;hours 001;hours 001;hours 001;hours 001;", 60);
    }

    private static void keywords() {
        for (String form : FORMS) {
            String word = form.substring(0, form.indexOf(' '));
            String rest = filled(form).substring(word.length());
            for (int index = 0; index < word.length(); index++) {
                String capital = word.substring(0, index) + Character.toUpperCase(word.charAt(index));
                malformedAt(capital + word.substring(index + 1) + rest, index);
                malformedAt(word.substring(0, index) + "_" + word.substring(index + 1) + rest, index);
                malformedAt(word.substring(0, index) + " " + rest, index);
            }
            malformedAt(word + "s" + rest, word.length());
            malformedAt(word + rest.substring(1), word.length());
            malformedAt(word + " " + rest, word.length() + 1);
        }
        malformedAt("movr 012", 3);
        malformedAt("mooe 0 4 5", 3);
        malformedAt("leavehours 1", 5);
    }

    private static void append() {
        Boundary.test(58, "the character is not in the range from ' ' to '~'", () -> {
            for (int code : new int[] {0, 30, 31, 127, 128, 255, 256, 65535}) {
                Boundary.refuses(ARGUMENT, Scenes::busy, x -> x.append((char) code));
            }
            for (char sign : new char[] {' ', '!', '}', '~'}) {
                Boundary.answers(8, Scenes::busy, x -> x.append(sign));
                Boundary.answers(1, ContainerTerminal::new, x -> x.append(sign));
            }
        });
        Boundary.test(58, "the buffer contains 60 characters", () -> {
            Boundary.answers(60, () -> typed(59), x -> x.append('9'));
            Boundary.refuses(STATE, () -> typed(60), x -> x.append('9'));
        });
        Boundary.test(58, "Returns the number of characters in the buffer.", () -> {
            for (int count = 0; count < 60; count++) {
                int before = count;
                Boundary.answers(count + 1, () -> typed(before), x -> x.append('9'));
            }
        });
    }

    private static ContainerTerminal typed(int count) {
        ContainerTerminal x = new ContainerTerminal();
        Check.type(x, SIXTY.substring(0, count));
        return x;
    }

    private static void programs() {
        Boundary.test(59, "Either all commands are executed or none.", CommandBoundaries::allOrNone);
        Boundary.test(59, "The buffer is empty afterwards", () -> {
            emptyAfter("hours 1");
            emptyAfter(SIXTY);
        });
        Boundary.test(59, "even if an exception is thrown", () -> {
            emptyAfter("");
            emptyAfter("hours x");
            emptyAfter("leave 0");
            emptyAfter("hours 1;leave 0");
            emptyAfter("hours 1;hours 1;hours 1;hours 1;hours 1;hours 1;hours 1;hour");
        });
        Boundary.test(59, "Returns the number of commands.", CommandBoundaries::repetitions);
        Boundary.test(59, "the program is malformed; the error position is stored", CommandBoundaries::malformed);
        Boundary.test(59, "the method of a command throws an exception", CommandBoundaries::everyFailure);
        Boundary.test(59, "the index of this command, starting at 0, is stored", CommandBoundaries::indexOfFailed);
    }

    private static void allOrNone() {
        StringBuilder before = new StringBuilder();
        for (int index = 0; index < 7; index++) {
            ContainerTerminal x = Scenes.quiet();
            Boundary.due("run", FAILED, Check.run(x, before + "leave 1"));
            String due = Whole.tell(Scenes.quiet()).replace("failed 1", "failed " + index);
            Boundary.due("the terminal", due, Whole.tell(x));
            before.append("hours 1;");
        }
        ContainerTerminal x = Scenes.quiet();
        Boundary.due("run", 5, Check.run(x, "moor 1 4 9;stow 13 1/1;deliver 9;move 001;hours 1"));
        Boundary.due("all of them", "3 1 1 2 4", x.shipCount() + " " + x.containersOn(1) + " " + x.yardCount() + " "
            + x.stackHeight(0, 1) + " " + x.hour());
    }

    private static void emptyAfter(String text) {
        ContainerTerminal x = new ContainerTerminal();
        Check.run(x, text);
        Boundary.due("append after run " + text, 1, x.append('h'));
        for (int count = 2; count <= 60; count++) {
            x.append('h');
        }
        Boundary.throwsDue(STATE, x, y -> y.append('h'));
    }

    private static void malformed() {
        String[] texts = {"", "x", "hours 1;", "hours 1;x", "leave 1;leave x"};
        int[] positions = {0, 0, 8, 8, 14};
        for (int index = 0; index < texts.length; index++) {
            ContainerTerminal x = Scenes.quiet();
            Boundary.due("run", MALFORMED, Check.run(x, texts[index]));
            String due = Whole.tell(Scenes.quiet()).replaceFirst("error 6", "error " + positions[index]);
            Boundary.due("the terminal", due, Whole.tell(x));
        }
    }

    /** Each method's exceptions, each once: all of them make the command fail, whatever their class. */
    private static void everyFailure() {
        String[] commands = {"moor 3 4 9", "moor 1 0 9", "moor 1 4 2", "moor 0 4 9", "stow 30 1/1", "stow 04 1/1",
            "stow 03 31/1", "stow 03 1/100", "stow 10 1/1", "stow 00 1/1", "clear 30=1", "clear 04=1", "clear 10=1",
            "clear 20=1", "clear 03=1", "move 301", "move 041", "move 000", "move 101", "move 031", "move 010",
            "deliver 5", "deliver 10", "leave 3", "leave 1", "leave 0", "leave 2", "hours 0", "hours 101"};
        for (String command : commands) {
            ContainerTerminal x = Scenes.quiet();
            Boundary.due(command, FAILED, Check.run(x, command));
            String due = Whole.tell(Scenes.quiet()).replace("failed 1", "failed 0");
            Boundary.due("the terminal after " + command, due, Whole.tell(x));
        }
    }

    private static void indexOfFailed() {
        StringBuilder before = new StringBuilder();
        for (int index = 0; index < 7; index++) {
            ContainerTerminal x = new ContainerTerminal();
            Check.run(x, before + "leave 0");
            Boundary.due("failedCommand", index, x.failedCommand());
            before.append("hours 9;");
        }
        ContainerTerminal y = new ContainerTerminal();
        Check.run(y, "hours 1;leave 0;leave 0;hours 0");
        Boundary.due("the first of several", 1, y.failedCommand());
        Boundary.throwsDue(NoSuchElementException.class, y, ContainerTerminal::errorPosition);
    }

    private static void stored() {
        Boundary.test(60, "no program was malformed so far", () -> {
            Boundary.refuses(NoSuchElementException.class, ContainerTerminal::new, ContainerTerminal::errorPosition);
            Boundary.refuses(NoSuchElementException.class, () -> ran("leave 0"), ContainerTerminal::errorPosition);
            Boundary.refuses(NoSuchElementException.class, () -> ran("hours 1"), ContainerTerminal::errorPosition);
            Boundary.answers(0, () -> ran(""), ContainerTerminal::errorPosition);
        });
        Boundary.test(60, "Returns the error position of the latest malformed program.",
            () -> latest(ContainerTerminal::errorPosition, "hours x", 6, "x", 0));
        Boundary.test(61, "no command failed so far", () -> {
            Boundary.refuses(NoSuchElementException.class, ContainerTerminal::new, ContainerTerminal::failedCommand);
            Boundary.refuses(NoSuchElementException.class, () -> ran("x"), ContainerTerminal::failedCommand);
            Boundary.refuses(NoSuchElementException.class, () -> ran("hours 1"), ContainerTerminal::failedCommand);
            Boundary.answers(0, () -> ran("leave 0"), ContainerTerminal::failedCommand);
        });
        Boundary.test(61, "Returns the index of the latest command that failed.",
            () -> latest(ContainerTerminal::failedCommand, "hours 1;leave 0", 1, "hours 0", 0));
    }

    private static ContainerTerminal ran(String text) {
        ContainerTerminal x = new ContainerTerminal();
        Check.run(x, text);
        return x;
    }

    private static void latest(Boundary.Step question, String first, int firstDue, String second, int secondDue) {
        ContainerTerminal x = ran(first);
        Boundary.due("the first", firstDue, question.on(x));
        Check.run(x, "hours 1");
        Boundary.due("after a program that ran", firstDue, question.on(x));
        Check.run(x, second);
        Boundary.due("the second", secondDue, question.on(x));
        Check.run(x, first);
        Boundary.due("the first again", firstDue, question.on(x));
        x.undo();
        x.save();
        x.restore();
        Boundary.due("after undo and restore", firstDue, question.on(x));
    }
}
