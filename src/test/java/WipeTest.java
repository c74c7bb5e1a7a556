/** Promise 3: wipe. */
public final class WipeTest {
    public static void main(String[] args) {
        Check check = new Check();
        BigRunner runner = new BigRunner();
        runner.wipe();
        check.dueThrow("load of nothing", IllegalArgumentException.class, runner::load);
        Check.typeAll(runner, "a=1");
        runner.wipe();
        check.dueThrow("load of a wiped line", IllegalArgumentException.class, runner::load);
        Check.typeAll(runner, "!".repeat(72));
        check.due("the 73rd character", runner.type('!'), false);
        runner.wipe();
        Check.typeAll(runner, "!1" + "+1".repeat(35));
        check.due("load after wipe", runner.load(), 1);
        onlyTheLine(check);
        check.end("WipeTest");
    }

    private static void onlyTheLine(Check check) {
        BigRunner runner = Check.loaded("?a;!a;?b;!b");
        runner.give(5);
        runner.give(6);
        runner.run(2);
        Check.typeAll(runner, "c=1");
        String before = Check.everything(runner);
        runner.wipe();
        check.due("all else after wipe", Check.everything(runner), before);
        check.due("run goes on", runner.run(9), 2);
        check.due("its second output", Check.output(runner, 1), "6");
    }
}
