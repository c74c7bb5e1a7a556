/** Promise 2: type. */
public final class TypeTest {
    public static void main(String[] args) {
        Check check = new Check();
        for (int code = 0; code <= Character.MAX_VALUE; code++) {
            boolean due = code >= 33 && code <= 126;
            check.due("type of code " + code, new BigRunner().type((char) code), due);
        }
        refusedChangesNothing(check);
        lineIsFull(check);
        check.end("TypeTest");
    }

    private static void refusedChangesNothing(Check check) {
        BigRunner runner = new BigRunner();
        Check.typeAll(runner, "a=4");
        for (char c : new char[] {' ', 0, 32, 127, 128, '\n', 255, 65535}) {
            check.due("type of code " + (int) c, runner.type(c), false);
        }
        Check.typeAll(runner, "2");
        runner.load();
        runner.run(1);
        check.due("a", Check.variable(runner, 0), "42");
    }

    private static void lineIsFull(Check check) {
        BigRunner runner = new BigRunner();
        String full = "!1" + "+1".repeat(35);
        Check.typeAll(runner, full);
        check.due("the 73rd character", runner.type('1'), false);
        check.due("the 73rd character again", runner.type('+'), false);
        check.due("load of 72 characters", runner.load(), 1);
        runner.run(1);
        check.due("its output", Check.output(runner, 0), "36");
        check.due("type after load", runner.type('1'), true);
    }
}
