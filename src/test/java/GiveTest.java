/** Promise 5: give. */
public final class GiveTest {
    public static void main(String[] args) {
        Check check = new Check();
        BigRunner runner = new BigRunner();
        int[] wrong = {1000000001, -1000000001, Integer.MAX_VALUE, Integer.MIN_VALUE};
        for (int number : wrong) {
            check.due("give(" + number + ")", runner.give(number), false);
        }
        check.due("none waits", runner.look(6), 0);
        int[] right = {1000000000, -1000000000, 0, -1, 7};
        for (int number : right) {
            check.due("give(" + number + ")", runner.give(number), true);
        }
        check.due("five wait", runner.look(6), 5);
        Check.typeAll(runner, "?a;?b;?c;?d;?e");
        runner.load();
        check.due("all five", runner.run(200), 5);
        for (int i = 0; i < right.length; i++) {
            check.due("variable " + i, Check.variable(runner, i), Integer.toString(right[i]));
        }
        twentyWait(check);
        inTurns(check);
        check.end("GiveTest");
    }

    private static void twentyWait(Check check) {
        BigRunner runner = Check.loaded("[1:?a;!a]");
        for (int i = 1; i <= 20; i++) {
            check.due("give " + i, runner.give(i), true);
        }
        check.due("give 21", runner.give(21), false);
        check.due("give 22", runner.give(22), false);
        check.due("twenty wait", runner.look(6), 20);
        runner.run(2);
        check.due("nineteen wait", runner.look(6), 19);
        check.due("give 23", runner.give(23), true);
        check.due("give 24", runner.give(24), false);
        runner.run(200);
        check.due("outputs", runner.look(5), 21);
        check.due("the first", Check.output(runner, 0), "1");
        check.due("the twelfth", Check.output(runner, 11), "12");
        check.due("the last one taken", Check.variable(runner, 0), "23");
    }

    /** More than twenty numbers pass through in the order in which they were given. */
    private static void inTurns(Check check) {
        BigRunner runner = Check.loaded("[1:?a]");
        int next = 0;
        int due = 0;
        for (int turn = 0; turn < 12; turn++) {
            for (int i = 0; i < 7; i++) {
                runner.give(next);
                next++;
            }
            for (int i = 0; i < 7; i++) {
                runner.run(2);
                check.due("number " + due, Check.variable(runner, 0), Integer.toString(due));
                due++;
            }
        }
    }
}
