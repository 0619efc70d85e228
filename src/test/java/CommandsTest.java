/** Promises 58 to 61: the input buffer, programs and what is stored of their failures. */
public final class CommandsTest {
    private static final String MALFORMED = "throws java.lang.IllegalArgumentException";
    private static final String FAILED = "throws java.lang.IllegalStateException";

    public static void main(String[] arguments) {
        append();
        everyCommand();
        argumentsOfCommands();
        argumentsThatFail();
        numbers();
        malformed();
        everyPrefix();
        everyCommandCanFail();
        failureUndoesAll();
        wrongAnswerIsNoFailure();
        storedPositions();
        bufferIsEmptyAfterwards();
        Check.end();
    }

    private static void append() {
        ContainerTerminal x = new ContainerTerminal();
        for (int code : new int[] {0, 9, 10, 31, 127, 128, 160, 255, 256, 65535}) {
            Check.badArgument("append " + code, () -> x.append((char) code));
        }
        for (int count = 1; count <= 60; count++) {
            Check.due("append", count, x.append(count % 2 == 0 ? ' ' : '~'));
        }
        Check.badState("append to the full buffer", () -> x.append('a'));
        Check.badArgument("append out of range to the full buffer", () -> x.append((char) 127));
        Check.badArgument("run", x::run);
        Check.due("error position", 0, x.errorPosition());
        Check.due("append to the empty buffer", 1, x.append('a'));
    }

    private static void everyCommand() {
        ContainerTerminal x = new ContainerTerminal();
        Check.due("run", 1, Check.run(x, "moor 2 4 3"));
        Check.due("run", 4, Check.run(x, "stow 21 30/99;stow 21 2/3;move 213;clear 23=3"));
        Check.due("view", "0 0 1 0 0 true | 0 0 | 0 0 | 0 0 d4 h3 / / 0:30/99 / / yard 1:2/3", Check.view(x));
        Check.due("run", 4, Check.run(x, "hours 5;deliver 1;clear 21=3;leave 2"));
        Check.due("view", "5 4 2 1 0 true | 0 0 | 0 0 | 0 0 yard 0:30/99", Check.view(x));
        Check.due("run of seven commands", 7, Check.run(x, "hours 1;hours 1;hours 1;hours 1;hours 1;hours 1;hours 1"));
        Check.due("hour", 12, x.hour());
        Check.due("run of 60 characters", 6,
            Check.run(x, "moor 0 4 12;moor 1 4 999;leave 0;hours 10;hours 100;hours 01"));
        Check.due("hour", 123, x.hour());
        Check.due("undoableCount", 5, x.undoableCount());
    }

    private static void argumentsOfCommands() {
        ContainerTerminal x = new ContainerTerminal();
        Check.run(x, "moor 1 2 345;stow 12 3/45;stow 12 6/7;move 123");
        Check.due("view", "0 0 0 0 0 true | 0 0 | 0 0 d2 h345 / / / 0:3/45 / 1:6/7 | 0 0 yard", Check.view(x));
        // Answers: 45 * 7 + 3 = 318 and 7 * 7 + 6 = 55.
        Check.due("run", 4, Check.run(x, "clear 12=8;clear 13=5;stow 13 9/9;deliver 1"));
        Check.due("view", "0 0 2 1 0 true | 0 0 | 0 0 d2 h345 / / / / 2:9/9 | 0 0 yard 0:3/45", Check.view(x));
        Check.due("run", 4, Check.run(x, "hours 2;move 131;deliver 0;clear 11=2"));
        Check.due("view", "2 0 3 2 0 true | 0 0 | 0 0 d2 h345 / / / / | 0 0 yard 2:9/9", Check.view(x));
        Check.due("run", 3, Check.run(x, "hours 2;deliver 2;leave 1"));
        Check.due("view", "4 0 3 3 0 true | 0 0 | 0 0 | 0 0 yard", Check.view(x));
    }

    private static void argumentsThatFail() {
        ContainerTerminal x = new ContainerTerminal();
        x.moor(1, 4, 50);
        failsAt(x, "hours 1;stow 04 1/1", 1);
        failsAt(x, "hours 1;stow 14 1/1", 1);
        failsAt(x, "stow 11 1/1;clear 11=8;clear 11=8", 2);
        failsAt(x, "deliver 1", 0);
    }

    private static void numbers() {
        ContainerTerminal x = new ContainerTerminal();
        Check.due("leading zeros", 4, Check.run(x, "moor 0 4 000;moor 1 4 07;stow 00 010/009;hours 007"));
        Check.due("view", "7 14 0 0 0 true | 0 0 d4 h0 / 0:10/9 / / / | 0 0 d4 h7 / / / / | 0 0 yard", Check.view(x));
        Check.due("three digits", FAILED, Check.run(x, "hours 999"));
        Check.due("three digits", FAILED, Check.run(x, "stow 00 1/100"));
        Check.due("three digits", 1, Check.run(x, "hours 100"));
        Check.due("hour", 107, x.hour());
        malformedAt("hours 1000", 9);
        malformedAt("hours 0001", 9);
    }

    private static void malformedAt(String text, int position) {
        ContainerTerminal x = new ContainerTerminal();
        x.moor(0, 4, 50);
        String before = Check.view(x);
        Check.due("run " + text, MALFORMED, Check.run(x, text));
        Check.due("error position of " + text, position, x.errorPosition());
        Check.due("view", before, Check.view(x));
        Check.due("undoableCount", 1, x.undoableCount());
        Check.notFound("failedCommand", x::failedCommand);
    }

    private static void malformed() {
        malformedAt("", 0);
        malformedAt(" hours 1", 0);
        malformedAt("Hours 1", 0);
        malformedAt(";", 0);
        malformedAt("hours 1;", 8);
        malformedAt("hours 1;;", 8);
        malformedAt("hours 1 ", 7);
        malformedAt("hours 1; hours 1", 8);
        malformedAt("hours  1", 6);
        malformedAt("hours -1", 6);
        malformedAt("hours1", 5);
        malformedAt("hour 1", 4);
        malformedAt("hourS 1", 4);
        malformedAt("hours a", 6);
        malformedAt("hours 1a", 7);
        malformedAt("hours 12a", 8);
        malformedAt("hours 123;x", 10);
        malformedAt("mo", 2);
        malformedAt("moo", 3);
        malformedAt("mov 1", 3);
        malformedAt("moe 1", 2);
        malformedAt("moor 10 4 5", 6);
        malformedAt("moor 1 44 5", 8);
        malformedAt("moor 1 4 5 ", 10);
        malformedAt("moor 1 4 5555", 12);
        malformedAt("moor 1 4", 8);
        malformedAt("moor 1 4 ", 9);
        malformedAt("stow 0 1 2/3", 6);
        malformedAt("stow 01 2", 9);
        malformedAt("stow 01 2;", 9);
        malformedAt("stow 01 2345/1", 11);
        malformedAt("stow 01 /1", 8);
        malformedAt("stow 01 1/", 10);
        malformedAt("stow 01 1/;", 10);
        malformedAt("stow 01 1/2/", 11);
        malformedAt("stow 012 1/2", 7);
        malformedAt("clear 01 =2", 8);
        malformedAt("clear 01=12", 10);
        malformedAt("clear 01=", 9);
        malformedAt("move 01", 7);
        malformedAt("move 0123", 8);
        malformedAt("move 0 1 2", 6);
        malformedAt("deliver", 7);
        malformedAt("deliver ", 8);
        malformedAt("deliver 1234", 11);
        malformedAt("leave 10", 7);
        malformedAt("leave x", 6);
        malformedAt("hours 1;leave 1;moor 0 4 5;clear 00=a", 36);
        malformedAt("hours 1;hours 1;hours 1;hours 1;hours 1;hours 1;hours 1;hour", 60);
        malformedAt("hours 1;hours 1;hours 1;hours 1;hours 1;hours 1;hours 1;hou ", 59);
        malformedAt("~", 0);
        malformedAt("hours /", 6);
        malformedAt("hours :", 6);
    }

    /** Every proper prefix of a program that is no program itself is in error at its end, each letter apart. */
    private static void everyPrefix() {
        String[] commands = {"moor 0 4 5", "stow 01 3/4", "clear 01=2", "move 012", "deliver 7", "leave 1", "hours 1"};
        for (String command : commands) {
            for (int length = 0; length < command.length(); length++) {
                String start = command.substring(0, length);
                malformedAt(start, length);
                malformedAt(start + '#', length);
                malformedAt("hours 2;" + start, 8 + length);
            }
        }
    }

    private static void failsAt(ContainerTerminal x, String text, int command) {
        String before = Check.view(x);
        int undoable = x.undoableCount();
        Check.due("run " + text, FAILED, Check.run(x, text));
        Check.due("failedCommand of " + text, command, x.failedCommand());
        Check.due("view", before, Check.view(x));
        Check.due("undoableCount", undoable, x.undoableCount());
    }

    private static void everyCommandCanFail() {
        String[] failing = {"moor 3 4 5", "moor 1 0 5", "moor 0 4 5", "stow 30 1/1", "stow 04 1/1", "stow 01 0/1",
            "stow 01 1/100", "stow 10 1/1", "stow 00 1/1", "clear 90=1", "clear 09=1", "clear 10=1", "clear 01=1",
            "move 301", "move 041", "move 004", "move 000", "move 101", "move 012", "deliver 0", "deliver 999",
            "leave 3", "leave 1", "leave 0", "leave 2", "hours 0", "hours 101"};
        for (String command : failing) {
            ContainerTerminal x = Check.stacked(1, 2, 3, 4, 5);
            x.moor(2, 9, 50);
            failsAt(x, command, 0);
            failsAt(x, "hours 1;moor 1 1 9;leave 1;" + command, 3);
            failsAt(x, "hours 6;moor 1 4 5", 1);
        }
    }

    private static void failureUndoesAll() {
        ContainerTerminal x = new ContainerTerminal();
        for (int count = 0; count < 8; count++) {
            x.pass(1);
        }
        x.moor(0, 4, 9);
        x.stow(0, 0, 1, 1);
        failsAt(x, "hours 3;clear 00=1;clear 00=8;deliver 0;leave 0;leave 0", 5);
        failsAt(x, "clear 00=1;clear 00=1;clear 00=1;clear 00=8", 3);
        Check.due("next id", 1, x.stow(0, 0, 1, 1));
        for (int count = 7; count >= 0; count--) {
            Check.due("undo", count, x.undo());
        }
        Check.due("the state before the last eight changes", 3, x.hour());
    }

    private static void wrongAnswerIsNoFailure() {
        ContainerTerminal x = Check.stacked(1);
        Check.due("run", 3, Check.run(x, "clear 00=1;clear 00=1;hours 1"));
        Check.due("view", "1 10 0 0 2 true | 0 2 d4 h100 / 0:1/1 / / / | 0 0 | 0 0 yard", Check.view(x));
        Check.due("run", 4, Check.run(x, "clear 00=1;hours 1;hours 1;clear 00=8"));
        Check.due("view", "3 15 1 0 3 true | 0 0 d4 h100 / / / / | 0 0 | 0 0 yard 0:1/1", Check.view(x));
    }

    private static void storedPositions() {
        ContainerTerminal x = new ContainerTerminal();
        Check.run(x, "hours 1");
        Check.notFound("errorPosition", x::errorPosition);
        Check.notFound("failedCommand", x::failedCommand);
        Check.run(x, "hours x");
        Check.due("errorPosition", 6, x.errorPosition());
        Check.notFound("failedCommand", x::failedCommand);
        Check.run(x, "hours 1;leave 0");
        Check.due("both", "6 1", x.errorPosition() + " " + x.failedCommand());
        Check.run(x, "");
        Check.due("both", "0 1", x.errorPosition() + " " + x.failedCommand());
        Check.run(x, "leave 0");
        Check.due("both", "0 0", x.errorPosition() + " " + x.failedCommand());
        Check.run(x, "hours 1;hours 1;hours 0");
        Check.run(x, "hours 1");
        x.undo();
        x.save();
        x.restore();
        Check.due("both stay", "0 2", x.errorPosition() + " " + x.failedCommand());
    }

    private static void bufferIsEmptyAfterwards() {
        ContainerTerminal x = new ContainerTerminal();
        for (String text : new String[] {"hours 1", "hours x", "leave 0"}) {
            Check.run(x, text);
            Check.due("append after run " + text, 1, x.append('h'));
            Check.run(x, "ours 1");
        }
        Check.due("hour", 4, x.hour());
        Check.badArgument("run of nothing", x::run);
        Check.type(x, "hours 1;");
        x.undo();
        x.save();
        x.restore();
        x.pass(1);
        Check.due("the buffer outlives changes, undo and restore", 2, Check.run(x, "hours 2"));
        Check.due("hour", 7, x.hour());
    }
}
