/** Promise 7: look. */
public final class LookTest {
    public static void main(String[] args) {
        Check check = new Check();
        BigRunner none = new BigRunner();
        BigRunner some = Check.ran("a=a+1;!a*a;!2*3;?b", 5, 6, 7);
        for (int what : new int[] {-1, 7, 8, -2, Integer.MIN_VALUE, Integer.MAX_VALUE}) {
            check.due("look(" + what + ")", none.look(what), -1);
            check.due("look(" + what + ")", some.look(what), -1);
        }
        int[] due = {3, 0, 4, 1, 2, 2, 2};
        for (int what = 0; what < due.length; what++) {
            check.due("look(" + what + ")", some.look(what), due[what]);
        }
        states(check);
        outputsAreCounted(check);
        check.end("LookTest");
    }

    private static void states(Check check) {
        BigRunner runner = new BigRunner();
        check.due("no program", runner.look(0), 0);
        Check.typeAll(runner, "a=1;?b;c=2;?d;e=1/c;f=1/e");
        check.due("still none", runner.look(0), 0);
        runner.load();
        check.due("loaded", runner.look(0), 1);
        runner.run(200);
        check.due("WAITS", runner.look(0), 2);
        runner.run(200);
        check.due("still WAITS", runner.look(0), 2);
        check.due("by no trap", runner.look(1), 0);
        runner.give(1);
        check.due("a number waits", runner.look(0), 1);
        runner.run(1);
        check.due("under way", runner.look(0), 1);
        runner.run(200);
        check.due("WAITS again", runner.look(0), 2);
        runner.give(1);
        check.dueThrow("trapped", ArithmeticException.class, () -> runner.run(200));
        check.due("trapped", runner.look(0), 4);
        check.due("by 1", runner.look(1), 1);
        check.due("steps", runner.look(2), 6);
        Check.typeAll(runner, "a=1;b=1");
        runner.load();
        check.due("loaded anew", runner.look(0), 1);
        runner.run(1);
        check.due("before the last step", runner.look(0), 1);
        runner.run(1);
        check.due("after the last step", runner.look(0), 3);
        check.due("a CHOICE at the end", Check.ran("{1:a=1|a=2}").look(0), 3);
        check.due("a LOOP at the end", Check.ran("a=1;[a:a=0]").look(0), 3);
    }

    private static void outputsAreCounted(Check check) {
        BigRunner runner = Check.loaded("a=30;[a:!a;a=a-1]");
        runner.run(2);
        check.due("none yet", runner.look(5), 0);
        runner.run(1);
        check.due("one", runner.look(5), 1);
        runner.run(200);
        check.due("all thirty", runner.look(5), 30);
    }
}
